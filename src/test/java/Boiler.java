/** A desk with short ways to send it a whole cycle and to compare what it answers. */
final class Boiler {
    static final int NONE = 0;
    static final int ALL = 15;
    static final int WAITING = 0;
    static final int READY = 1;
    static final int STOP = 2;
    static final int INITIAL = BoilerDesk.INITIAL;
    static final int NORMAL = BoilerDesk.NORMAL;
    static final int DEGRADED = BoilerDesk.DEGRADED;
    static final int RESCUE = BoilerDesk.RESCUE;
    static final int STOPPED = BoilerDesk.STOPPED;

    /** The units' bits. */
    static final int LEVEL = 1;
    static final int STEAM = 2;

    /** How many calls bring all the readings of a cycle: a level, steam, and the four pumps. */
    static final int READING_CALLS = 6;

    static int pumpUnit(int pump) {
        return 1 << 2 + pump;
    }

    static int teller(int pump) {
        return 1 << 6 + pump;
    }

    final BoilerDesk desk = new BoilerDesk();
    private final Checks checks;
    private final String name;

    Boiler(Checks checks, String name) {
        this.checks = checks;
        this.name = name;
    }

    /** The CONSTANTS in the order of begin(). */
    Boiler begin(int... k) {
        desk.begin(k[0], k[1], k[2], k[3], k[4], k[5], k[6], k[7], k[8]);
        return this;
    }

    /** All ten readings; which pumps say on and which are told to give stand bit by bit. */
    Boiler readings(int level, int steam, int on, int gives) {
        return readingsBut(-1, level, steam, on, gives);
    }

    /** One of the six calls (0 the level, 1 steam, 2 to 5 the pumps) is left out. */
    Boiler readingsBut(int missing, int level, int steam, int on, int gives) {
        for (int call = 0; call < READING_CALLS; call++) {
            if (call != missing) {
                reading(call, level, steam, on, gives);
            }
        }
        return this;
    }

    /** One of the six calls alone. */
    Boiler reading(int call, int level, int steam, int on, int gives) {
        if (call == 0) {
            desk.level(level);
        } else if (call == 1) {
            desk.steam(steam);
        } else {
            int pump = call - 2;
            desk.pump(pump, (on >> pump & 1) == 1, (gives >> pump & 1) == 1);
        }
        return this;
    }

    /** Readings with all pumps shut. */
    Boiler quiet(int level, int steam) {
        return readings(level, steam, NONE, NONE);
    }

    Boiler say(int what) {
        desk.say(what);
        return this;
    }

    Boiler repair(int unit) {
        desk.unit(unit, true);
        return this;
    }

    Boiler acknowledge(int unit) {
        desk.unit(unit, false);
        return this;
    }

    Boiler cycle(int mode) {
        checks.equal(name + ": cycle()", desk.cycle(), mode);
        checks.equal(name + ": state(8) behind it", desk.state(8), mode);
        return this;
    }

    Boiler told(int what, int want) {
        checks.equal(name + ": told(" + what + ")", desk.told(what), want);
        return this;
    }

    Boiler state(int what, int want) {
        checks.equal(name + ": state(" + what + ")", desk.state(what), want);
        return this;
    }

    Boiler commands(int turnedOn, int shut) {
        return told(0, turnedOn | shut << 4);
    }

    Boiler detected(int units) {
        return told(2, units);
    }

    Boiler repaired(int units) {
        return told(3, units);
    }

    Boiler failed(int units) {
        return state(4, units);
    }

    Boiler acknowledged(int units) {
        return state(5, units);
    }

    Boiler pumpsOn(int pumps) {
        return state(6, pumps);
    }

    Boiler levelFrom(int from, int to) {
        return state(0, from).state(1, to);
    }

    Boiler steamFrom(int from, int to) {
        return state(2, from).state(3, to);
    }

    Boiler toldNothing() {
        return tells(0, 0, 0, 0, 0);
    }

    /** All that told() answers, in its order. */
    Boiler tells(int... wants) {
        for (int what = 0; what < wants.length; what++) {
            told(what, wants[what]);
        }
        return this;
    }

    /** All that state() answers, in its order. */
    Boiler states(int... wants) {
        for (int what = 0; what < wants.length; what++) {
            state(what, wants[what]);
        }
        return this;
    }

    /** What a new object answers. */
    Boiler asNew() {
        return states(0, 1000, 0, 50, 0, 0, 0, 0, INITIAL, 0).toldNothing();
    }

    /** All that can be asked of both is the same. */
    Boiler like(Boiler other) {
        for (int what = 0; what <= 4; what++) {
            told(what, other.desk.told(what));
        }
        for (int what = 0; what <= 9; what++) {
            state(what, other.desk.state(what));
        }
        return this;
    }

    /** Out of INITIAL in one cycle, at a normal level with all pumps shut. */
    Boiler started(int level) {
        return quiet(level, 0).say(WAITING).say(READY).cycle(NORMAL);
    }

    /** Out of INITIAL in two cycles, with all pumps on behind both, and none of them said to give yet. */
    Boiler startedPumping(int lowLevel, int level) {
        quiet(lowLevel, 0).say(WAITING).cycle(INITIAL).pumpsOn(ALL);
        return readings(level, 0, ALL, NONE).say(READY).cycle(NORMAL).pumpsOn(ALL);
    }
}
