/** The promises 1 to 10, sentence by sentence, beyond what the Terms say. */
final class Promises extends Group {
    private static final int MOST_CYCLES = 1000000;
    private static final int[] FAR = {Integer.MIN_VALUE, -2, -1, Integer.MAX_VALUE};

    Promises(Sentences sentences) {
        super(sentences);
    }

    @Override
    void run() {
        sentence("BoilerDesk(): C 1000, M1 100, N1 400, N2 600, M2 900, W 50, U1 5, U2 5, P 15.", this::newObject);
        sentence("void begin(int c, int m1, int n1, int n2, int m2, int w, int u1, int u2, int p) throws "
                + "IllegalArgumentException: All anew with other CONSTANTS.", this::begin);
        sentence("IllegalArgumentException: they are not as said.", this::beginRefused);
        sentence("void level(int v): A level is received.", this::level);
        sentence("void steam(int v): Steam is received.", this::steam);
        sentence("void pump(int pump, boolean on, boolean gives) throws IllegalArgumentException: A pump says whether "
                + "it is on, and what tells of it whether it gives.", this::pump);
        sentence("IllegalArgumentException: pump is not 0..3.", this::pumpRefused);
        sentence("void say(int what) throws IllegalArgumentException: What 0: WAITING, 1: READY, 2: STOP is received.",
                this::say);
        sentence("2: STOP is received. IllegalArgumentException for others.", this::sayRefused);
        sentence("void unit(int unit, boolean repaired) throws IllegalArgumentException: A repair (or acknowledgement) "
                + "of a UNIT is received.", this::unit);
        sentence("IllegalArgumentException: unit is not 0..9.", this::unitRefused);
        sentence("int cycle() throws IllegalStateException: A CYCLE: the MODE behind it.", this::cycle);
        sentence("IllegalStateException: there were 1,000,000 (STOPPED ones, too).", this::cycleRefused);
        sentence("int told(int what) throws IllegalArgumentException: Of the latest CYCLE what", this::latestCycle);
        sentence("0: COMMANDS to pumps, bits 0..3 for on, 4..7 for SHUT;", this::toldPumps);
        sentence("1: 1 if the valve is told to open, 2 to be SHUT, else 0;", this::toldValve);
        sentence("2: UNITS DETECTED, bit by bit;", this::toldDetected);
        sentence("3: REPAIRED;", this::toldRepaired);
        sentence("4: 1 if PROGRAM READY is told.", this::toldProgramReady);
        sentence("(All 0 before any, and in a CYCLE that begins STOPPED.)", this::toldNothing);
        sentence("in a CYCLE that begins STOPPED.) IllegalArgumentException for others.", this::toldRefused);
        sentence("int state(int what) throws IllegalArgumentException: What 0, 1: the level ESTIMATED, from, to; "
                + "2, 3: steam;", this::stateEstimated);
        sentence("4: UNITS that have FAILED, bit by bit; 5: those that were ACKNOWLEDGED;", this::stateUnits);
        sentence("6: pumps that are on, bit by bit; 7: 1 if the valve is open;", this::stateMachines);
        sentence("8: the MODE; 9: CYCLES.", this::stateModeAndCycles);
        sentence("9: CYCLES. IllegalArgumentException for others.", this::stateRefused);
    }

    /** Each constant by what can be seen of it, on both sides. */
    private void newObject() {
        boiler("C and W").states(0, 1000, 0, 50);
        boiler("N1").quiet(400, 0).say(Boiler.WAITING).cycle(Boiler.INITIAL).told(4, 1).commands(0, 0);
        boiler("below N1").quiet(399, 0).say(Boiler.WAITING).cycle(Boiler.INITIAL).told(4, 0).commands(15, 0);
        boiler("N2").quiet(600, 0).say(Boiler.WAITING).cycle(Boiler.INITIAL).told(4, 1).told(1, 0);
        boiler("above N2").quiet(601, 0).say(Boiler.WAITING).cycle(Boiler.INITIAL).told(4, 0).told(1, 1);
        boiler("C").quiet(1000, 50).cycle(Boiler.INITIAL).failed(0);
        boiler("above C").quiet(1001, 50).cycle(Boiler.STOPPED).failed(Boiler.LEVEL);
        boiler("above W").quiet(1000, 51).cycle(Boiler.STOPPED).failed(Boiler.STEAM);
        boiler("U1").started(500).quiet(500, 5).cycle(Boiler.NORMAL).failed(0);
        boiler("above U1").started(500).quiet(500, 6).cycle(Boiler.DEGRADED).failed(Boiler.STEAM);
        withTenOfSteam().quiet(480, 5).cycle(Boiler.NORMAL).failed(0);
        withTenOfSteam().quiet(480, 4).cycle(Boiler.DEGRADED).failed(Boiler.STEAM);
        boiler("P").startedPumping(300, 400).readings(-1, 0, 15, 15).cycle(Boiler.RESCUE).levelFrom(395, 460)
                .readings(-1, 0, 15, 15).cycle(Boiler.RESCUE).levelFrom(450, 520);
        lowLimit();
        highLimit();
        boiler("objects are apart").cycle(Boiler.STOPPED);
        boiler("another one").asNew();
    }

    private Boiler withTenOfSteam() {
        return boiler("U2").started(500).quiet(500, 5).cycle(Boiler.NORMAL).quiet(490, 10).cycle(Boiler.NORMAL);
    }

    /** All pumps have failed: they are never turned on, and the level may go down and up by itself. */
    private Boiler withFailedPumps(String name, int level) {
        return boiler(name).readings(level, 0, 15, 0).say(Boiler.WAITING).say(Boiler.READY).cycle(Boiler.DEGRADED);
    }

    private void lowLimit() {
        Boiler sinking = withFailedPumps("M1", 400);
        int level = 400;
        for (int steam = 5; steam <= 50; steam += 5) {
            level -= steam;
            sinking.quiet(level, steam).cycle(Boiler.DEGRADED);
        }
        checks.equal(named("the level has sunk to"), level, 125);
        sinking.quiet(101, 50).cycle(Boiler.DEGRADED).quiet(100, 50).cycle(Boiler.STOPPED).failed(0b111100);
    }

    private void highLimit() {
        Boiler rising = withFailedPumps("M2", 600);
        for (int level = 660; level <= 840; level += 60) {
            rising.quiet(level, 0).cycle(Boiler.DEGRADED);
        }
        rising.quiet(899, 0).cycle(Boiler.DEGRADED).quiet(900, 0).cycle(Boiler.STOPPED).failed(0b111100);
    }

    /** Every constant differs from that of a new object, and from every other one. */
    private void begin() {
        Boiler boiler = boiler("constants taken").cycle(Boiler.STOPPED).begin(2000, 200, 500, 700, 1500, 90, 7, 3, 21);
        boiler.states(0, 2000, 0, 90, 0, 0, 0, 0, Boiler.INITIAL, 0).toldNothing();
        boiler.quiet(499, 0).say(Boiler.WAITING).cycle(Boiler.INITIAL).commands(15, 0).told(4, 0);
        boiler.readings(701, 0, 15, 0).cycle(Boiler.INITIAL).commands(0, 15).told(1, 1);
        boiler.quiet(499, 0).cycle(Boiler.INITIAL).told(1, 2);
        boiler.readings(700, 0, 15, 0).say(Boiler.READY).cycle(Boiler.NORMAL);
        boiler.readings(-1, 7, 15, 15).cycle(Boiler.RESCUE).levelFrom(693, 784).steamFrom(7, 7);
        boiler.readings(-1, 7, 0, 0).cycle(Boiler.RESCUE).levelFrom(679, 780);
        for (int level : new int[] {201, 1499}) {
            beginAndReach(level, Boiler.NORMAL);
        }
        for (int level : new int[] {200, 1500}) {
            beginAndReach(level, Boiler.STOPPED);
        }
        Boiler stopped = boiler("STOPPED no more").cycle(Boiler.STOPPED).begin(CONSTANTS_OF_A_NEW_OBJECT);
        stopped.asNew().started(500).state(9, 1);
    }

    /** The rates are so large that every level may come next. */
    private void beginAndReach(int level, int mode) {
        boiler("to " + level).begin(2000, 200, 500, 700, 1500, 1000, 1000, 1000, 1000).startedPumping(300, 600)
                .readings(level, 0, 15, 15).cycle(mode).failed(0);
    }

    /** The bounds one by one are the Terms'; here the order of the five levels as a whole, and more than one wrong. */
    private void beginRefused() {
        int[][] wrong = {
            {0, 0, 0, 0, 0, 0, 0, 0, 0}, {-1, -1, -1, -1, -1, -1, -1, -1, -1}, {900, 900, 600, 400, 100, 50, 5, 5, 15},
            {1000, 100, 600, 400, 900, 50, 5, 5, 15}, {1000, 400, 100, 600, 900, 50, 5, 5, 15},
            {1000, 100, 400, 900, 600, 50, 5, 5, 15}, {1000, 100, 400, 600, 900, -1, -1, -1, 0},
        };
        for (int[] k : wrong) {
            Boiler boiler = boiler("refused").started(500);
            illegalArgument("begin" + java.util.Arrays.toString(k), () -> boiler.begin(k));
            boiler.states(500, 500, 0, 0, 0, 0, 0, 0, Boiler.NORMAL, 1).quiet(495, 5).cycle(Boiler.NORMAL);
        }
    }

    private void level() {
        for (int level : new int[] {0, 1, 999, 1000}) {
            boiler("taken: " + level).quiet(level, 0).cycle(Boiler.INITIAL).levelFrom(level, level);
        }
        for (int level : new int[] {Integer.MIN_VALUE, -1, 1001, Integer.MAX_VALUE}) {
            boiler("received, though wrong: " + level).started(500).quiet(level, 0).cycle(Boiler.RESCUE)
                    .detected(Boiler.LEVEL);
        }
        boiler("not received").readingsBut(0, 500, 0, 0, 0).cycle(Boiler.STOPPED);
    }

    private void steam() {
        for (int steam : new int[] {0, 1, 49, 50}) {
            boiler("taken: " + steam).quiet(500, steam).cycle(Boiler.INITIAL).steamFrom(steam, steam);
        }
        for (int steam : new int[] {Integer.MIN_VALUE, -1, 51, Integer.MAX_VALUE}) {
            boiler("received, though wrong: " + steam).started(500).quiet(500, steam).cycle(Boiler.DEGRADED)
                    .detected(Boiler.STEAM);
        }
        boiler("not received").readingsBut(1, 500, 0, 0, 0).cycle(Boiler.STOPPED);
    }

    private void pump() {
        for (int pump = 0; pump <= 3; pump++) {
            boiler("on " + pump).readings(500, 0, 1 << pump, 0).cycle(Boiler.INITIAL).detected(Boiler.pumpUnit(pump));
            boiler("gives " + pump).readings(500, 0, 0, 1 << pump).cycle(Boiler.INITIAL).detected(Boiler.teller(pump));
            boiler("not received " + pump).readingsBut(2 + pump, 500, 0, 0, 0).cycle(Boiler.STOPPED);
        }
    }

    private void pumpRefused() {
        Boiler boiler = boiler("refused").quiet(500, 0);
        for (int wrong : new int[] {Integer.MIN_VALUE, -32, -1, 4, 5, 32, Integer.MAX_VALUE}) {
            illegalArgument("pump " + wrong, () -> boiler.desk.pump(wrong, true, true));
        }
        boiler.desk.pump(0, false, false);
        boiler.desk.pump(3, false, false);
        boiler.cycle(Boiler.INITIAL).failed(0);
    }

    private void say() {
        boiler("0").quiet(500, 0).say(0).cycle(Boiler.INITIAL).told(4, 1);
        boiler("1").quiet(500, 0).say(0).say(1).cycle(Boiler.NORMAL);
        boiler("1 without 0").quiet(500, 0).say(1).cycle(Boiler.STOPPED);
        boiler("2").quiet(500, 0).say(2).cycle(Boiler.INITIAL).quiet(500, 0).say(2).cycle(Boiler.INITIAL)
                .quiet(500, 0).say(2).cycle(Boiler.STOPPED);
    }

    private void sayRefused() {
        Boiler boiler = boiler("refused").quiet(500, 9);
        for (int wrong : FAR) {
            illegalArgument("say " + wrong, () -> boiler.say(wrong));
        }
        illegalArgument("say 3", () -> boiler.say(3));
        // Neither WAITING (with steam) nor READY (without WAITING) was heard.
        boiler.cycle(Boiler.INITIAL).toldNothing();
    }

    private void unit() {
        for (int unit = 0; unit <= 9; unit++) {
            int bit = 1 << unit;
            withFailed(unit, "repair").quiet(500, 0).repair(unit).cycle(Boiler.NORMAL).repaired(bit).failed(0);
            withFailed(unit, "acknowledgement").quiet(500, 0).acknowledge(unit)
                    .cycle(unit == 0 ? Boiler.RESCUE : Boiler.DEGRADED).repaired(0).failed(bit).acknowledged(bit);
        }
    }

    private void unitRefused() {
        Boiler boiler = boiler("refused").started(500).quiet(500, 0);
        for (int wrong : new int[] {Integer.MIN_VALUE, -32, -1, 10, 11, 32, Integer.MAX_VALUE}) {
            illegalArgument("repair of " + wrong, () -> boiler.repair(wrong));
            illegalArgument("acknowledgement of " + wrong, () -> boiler.acknowledge(wrong));
        }
        boiler.cycle(Boiler.NORMAL);
    }

    private void cycle() {
        for (int mode : LIVE_MODES) {
            Boiler boiler = inMode(mode, "its mode");
            quietIn(mode, boiler).cycle(mode).cycle(Boiler.STOPPED).cycle(Boiler.STOPPED);
        }
    }

    private void cycleRefused() {
        Boiler stopped = boiler("STOPPED ones");
        for (int cycle = 1; cycle < MOST_CYCLES; cycle++) {
            stopped.desk.cycle();
        }
        stopped.state(9, MOST_CYCLES - 1).cycle(Boiler.STOPPED).state(9, MOST_CYCLES);
        checks.refused(named("one more"), IllegalStateException.class, stopped.desk::cycle);
        stopped.state(9, MOST_CYCLES).state(8, Boiler.STOPPED);
        stopped.begin(CONSTANTS_OF_A_NEW_OBJECT).started(500).state(9, 1);
        Boiler live = boiler("live ones").started(500);
        for (int cycle = 2; cycle < MOST_CYCLES; cycle++) {
            live.quiet(500, 0).desk.cycle();
        }
        live.readings(500, 0, 0b0001, 0).cycle(Boiler.DEGRADED).state(9, MOST_CYCLES).quiet(-1, 3);
        checks.refused(named("one more"), IllegalStateException.class, live.desk::cycle);
        live.states(500, 500, 0, 0, 1 << 2, 0, 0, 0, Boiler.DEGRADED, MOST_CYCLES).detected(1 << 2);
    }

    private void latestCycle() {
        Boiler boiler = boiler("latest");
        boiler.readings(700, 0, 0b0010, 0).say(Boiler.WAITING).cycle(Boiler.INITIAL).tells(0, 1, 1 << 3, 0, 0);
        boiler.quiet(399, 0).cycle(Boiler.INITIAL).tells(0b1101, 2, 0, 0, 0);
        // Receiving and asking change nothing of it.
        boiler.readings(500, 0, 0b1101, 0).repair(3).tells(0b1101, 2, 0, 0, 0).tells(0b1101, 2, 0, 0, 0);
        boiler.cycle(Boiler.INITIAL).tells(0b1101 << 4, 0, 0, 1 << 3, 1);
        boiler.quiet(500, 0).cycle(Boiler.INITIAL).tells(0, 0, 0, 0, 1);
        boiler.quiet(500, 0).say(Boiler.READY).cycle(Boiler.NORMAL).toldNothing();
    }

    private void toldPumps() {
        for (int good = 0; good <= 15; good++) {
            boiler("on: " + good).readings(399, 0, 15 & ~good, 0).say(Boiler.WAITING).cycle(Boiler.INITIAL)
                    .told(0, good).pumpsOn(good)
                    .readings(400, 0, good, 0).cycle(Boiler.INITIAL).told(0, good << 4).pumpsOn(0);
        }
    }

    private void toldValve() {
        boiler("open, SHUT").quiet(600, 0).say(Boiler.WAITING).cycle(Boiler.INITIAL).told(1, 0)
                .quiet(601, 0).cycle(Boiler.INITIAL).told(1, 1).quiet(601, 0).cycle(Boiler.INITIAL).told(1, 0)
                .quiet(600, 0).cycle(Boiler.INITIAL).told(1, 2).quiet(600, 0).cycle(Boiler.INITIAL).told(1, 0);
    }

    private void toldDetected() {
        boiler("all but those of failed pumps").started(500).readings(-1, -1, 0b0101, 15).cycle(Boiler.STOPPED)
                .told(2, 0b1010010111);
        boiler("none").started(500).quiet(500, 0).cycle(Boiler.NORMAL).told(2, 0);
    }

    private void toldRepaired() {
        boiler("many").started(500).readings(500, -1, 0b0101, 15).cycle(Boiler.DEGRADED).failed(0b1010010110)
                .quiet(500, 0).repair(1).repair(2).repair(9).cycle(Boiler.DEGRADED).told(3, 0b1000000110)
                .quiet(500, 0).cycle(Boiler.DEGRADED).told(3, 0);
    }

    private void toldProgramReady() {
        boiler("at N1").quiet(400, 0).say(Boiler.WAITING).cycle(Boiler.INITIAL).told(4, 1)
                .quiet(399, 0).cycle(Boiler.INITIAL).told(4, 0);
        boiler("not STOPPED").quiet(400, 0).say(Boiler.WAITING).cycle(Boiler.INITIAL).told(4, 1)
                .quiet(400, 1).cycle(Boiler.STOPPED).told(4, 0);
    }

    private void toldNothing() {
        boiler("before any").toldNothing().quiet(500, 0).say(Boiler.WAITING).repair(3).toldNothing();
        boiler("behind PROGRAM READY").quiet(500, 0).say(Boiler.WAITING).cycle(Boiler.INITIAL).told(4, 1)
                .cycle(Boiler.STOPPED).toldNothing().readings(-1, -1, 15, 15).repair(1).cycle(Boiler.STOPPED)
                .toldNothing();
        boiler("behind DETECTED").started(500).quiet(-1, -1).cycle(Boiler.STOPPED).told(2, 3)
                .quiet(500, 0).cycle(Boiler.STOPPED).toldNothing();
        withFailed(4, "behind REPAIRED").quiet(500, 0).repair(4).acknowledge(4).cycle(Boiler.STOPPED).told(3, 1 << 4)
                .quiet(500, 0).cycle(Boiler.STOPPED).toldNothing();
        boiler("behind a pump's SHUT").startedPumping(300, 600).readings(610, 0, 15, 15).cycle(Boiler.NORMAL)
                .commands(0, 15).cycle(Boiler.STOPPED).toldNothing().cycle(Boiler.STOPPED).toldNothing();
        boiler("behind the valve's SHUT").quiet(700, 0).say(Boiler.WAITING).cycle(Boiler.INITIAL)
                .quiet(500, 0).cycle(Boiler.INITIAL).told(1, 2).cycle(Boiler.STOPPED).toldNothing();
    }

    private void toldRefused() {
        Boiler boiler = boiler("refused");
        for (int wrong : FAR) {
            illegalArgument("told " + wrong, () -> boiler.desk.told(wrong));
        }
        illegalArgument("told 5", () -> boiler.desk.told(5));
        boiler.asNew();
    }

    private void stateEstimated() {
        boiler("level").started(500).quiet(-1, 3).cycle(Boiler.RESCUE).states(495, 500, 3, 3);
        boiler("steam").started(500).quiet(499, -1).cycle(Boiler.DEGRADED).states(499, 499, 0, 5);
    }

    private void stateUnits() {
        boiler("bits").started(500).readings(500, -1, 0b0101, 15).cycle(Boiler.DEGRADED).states(500, 500, 0, 5)
                .state(4, 0b1010010110).state(5, 0)
                .quiet(500, 0).acknowledge(9).acknowledge(2).cycle(Boiler.DEGRADED)
                .state(4, 0b1010010110).state(5, 0b1000000100);
        boiler("bit 0").started(500).quiet(-1, 0).cycle(Boiler.RESCUE).state(4, 1).state(5, 0)
                .quiet(-1, 0).acknowledge(0).cycle(Boiler.RESCUE).state(4, 1).state(5, 1);
    }

    private void stateMachines() {
        for (int good = 0; good <= 15; good++) {
            boiler("on: " + good).readings(399, 0, 15 & ~good, 0).say(Boiler.WAITING).cycle(Boiler.INITIAL)
                    .state(6, good).state(7, 0);
        }
        boiler("open").quiet(601, 0).say(Boiler.WAITING).cycle(Boiler.INITIAL).state(6, 0).state(7, 1)
                .quiet(600, 0).cycle(Boiler.INITIAL).state(6, 0).state(7, 0);
    }

    private void stateModeAndCycles() {
        Boiler boiler = boiler("cycles").state(8, Boiler.INITIAL).state(9, 0);
        for (int cycle = 1; cycle <= 5; cycle++) {
            boiler.quiet(500, 0).cycle(Boiler.INITIAL).state(9, cycle);
        }
        boiler.started(500).state(9, 6).quiet(500, -1).cycle(Boiler.DEGRADED).state(9, 7);
        boiler.quiet(-1, 0).repair(1).cycle(Boiler.RESCUE).state(9, 8);
        for (int cycle = 9; cycle <= 12; cycle++) {
            boiler.cycle(Boiler.STOPPED).state(9, cycle);
        }
    }

    private void stateRefused() {
        Boiler boiler = boiler("refused");
        for (int wrong : FAR) {
            illegalArgument("state " + wrong, () -> boiler.desk.state(wrong));
        }
        illegalArgument("state 10", () -> boiler.desk.state(10));
        boiler.asNew();
    }
}
