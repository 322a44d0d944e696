/** Tests of one part of the document, with a test of its own for each sentence. */
abstract class Group {
    static final int[] CONSTANTS_OF_A_NEW_OBJECT = {1000, 100, 400, 600, 900, 50, 5, 5, 15};

    static final int[] LIVE_MODES = {Boiler.INITIAL, Boiler.NORMAL, Boiler.DEGRADED, Boiler.RESCUE};

    private final Sentences sentences;
    final Checks checks;

    Group(Sentences sentences) {
        this.sentences = sentences;
        this.checks = sentences.checks;
    }

    abstract void run();

    final void sentence(String quote, Runnable test) {
        sentences.test(quote, test);
    }

    final String named(String what) {
        return "\"" + sentences.current() + "\": " + what;
    }

    final Boiler boiler(String name) {
        return new Boiler(checks, named(name));
    }

    final void illegalArgument(String what, Runnable call) {
        checks.illegalArgument(named(what), call);
    }

    /** Just this unit has failed, and was not acknowledged; the level was 500, steam 0, all pumps are shut. */
    final Boiler withFailed(int unit, String name) {
        Boiler boiler = boiler(name + ", unit " + unit).started(500);
        int on = unit >= 2 && unit < 6 ? 1 << unit - 2 : 0;
        int gives = unit >= 6 ? 1 << unit - 6 : 0;
        int mode = unit == 0 ? Boiler.RESCUE : Boiler.DEGRADED;
        return boiler.readings(unit == 0 ? -1 : 500, unit == 1 ? -1 : 0, on, gives).cycle(mode).failed(1 << unit);
    }

    /** A boiler in this mode; the level was 500, steam 0, all pumps are shut. */
    final Boiler inMode(int mode, String name) {
        String inMode = name + ", in mode " + mode;
        switch (mode) {
            case Boiler.INITIAL: return boiler(inMode);
            case Boiler.NORMAL: return boiler(inMode).started(500);
            case Boiler.DEGRADED: return withFailed(4, inMode);
            case Boiler.RESCUE: return withFailed(0, inMode);
            default: return boiler(inMode).cycle(Boiler.STOPPED);
        }
    }

    /** Readings with which a boiler of inMode() stays in its mode. */
    static Boiler quietIn(int mode, Boiler boiler) {
        return boiler.quiet(mode == Boiler.RESCUE ? -1 : 500, 0);
    }
}
