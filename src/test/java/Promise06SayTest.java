/** Promise 6: WAITING, READY and STOP are received; other words are refused. */
public final class Promise06SayTest {
    private static final Checks CHECKS = new Checks();

    public static void main(String[] args) {
        refusesOtherWords();
        hearsEachWord();
        forgetsReadyBehindTheCycle();
        CHECKS.end();
    }

    private static void refusesOtherWords() {
        Boiler boiler = new Boiler(CHECKS, "wrong words").quiet(500, 9);
        for (int wrong : new int[] {-1, 3, Integer.MIN_VALUE, Integer.MAX_VALUE}) {
            CHECKS.illegalArgument("say " + wrong, () -> boiler.desk.say(wrong));
        }
        // Neither WAITING (with steam) nor READY (without WAITING) was heard.
        boiler.cycle(BoilerDesk.INITIAL).toldNothing();
    }

    private static void hearsEachWord() {
        new Boiler(CHECKS, "WAITING").quiet(500, 0).say(Boiler.WAITING).say(Boiler.WAITING)
                .cycle(BoilerDesk.INITIAL).told(4, 1);
        new Boiler(CHECKS, "READY").quiet(500, 0).say(Boiler.WAITING).say(Boiler.READY).say(Boiler.READY)
                .cycle(BoilerDesk.NORMAL).told(4, 0);
        Boiler stop = new Boiler(CHECKS, "STOP");
        stop.quiet(500, 0).say(Boiler.STOP).say(Boiler.STOP).say(Boiler.STOP).cycle(BoilerDesk.INITIAL);
        stop.quiet(500, 0).say(Boiler.STOP).cycle(BoilerDesk.INITIAL);
        stop.quiet(500, 0).say(Boiler.STOP).cycle(BoilerDesk.STOPPED);
    }

    private static void forgetsReadyBehindTheCycle() {
        Boiler early = new Boiler(CHECKS, "words come in any order").say(Boiler.READY).say(Boiler.WAITING);
        early.quiet(500, 0).cycle(BoilerDesk.NORMAL);
        Boiler stopped = new Boiler(CHECKS, "words while STOPPED").cycle(BoilerDesk.STOPPED);
        stopped.quiet(500, 0).say(Boiler.WAITING).say(Boiler.READY).cycle(BoilerDesk.STOPPED).toldNothing();
        stopped.desk.begin(1000, 100, 400, 600, 900, 50, 5, 5, 15);
        stopped.quiet(500, 0).say(Boiler.WAITING).cycle(BoilerDesk.INITIAL);
        stopped.quiet(500, 0).cycle(BoilerDesk.INITIAL).told(4, 1);
    }
}
