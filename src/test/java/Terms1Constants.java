import java.util.Arrays;

/** Terms 1: the CONSTANTS and their bounds, the UNITS, the MODES, and how all is at first. */
final class Terms1Constants extends Group {
    private static final int C = 0, M1 = 1, N1 = 2, N2 = 3, M2 = 4, W = 5, U1 = 6, U2 = 7, P = 8;
    private static final int[] LEAST = {3, 0, 1, 2, 3, 0, 0, 0, 1};
    private static final int[] GREATEST = {1000000, 999997, 999998, 999999, 1000000, 100000, 100000, 100000, 100000};

    Terms1Constants(Sentences sentences) {
        super(sentences);
    }

    @Override
    void run() {
        sentence("An object is used for at most 512 calls after it has been made; what later calls answer is free.",
                this::answersTheLastOf512Calls);
        sentence("1 CONSTANTS (litres, and litres a cycle): capacity C (up to 1000000), limits M1, M2, normal bounds "
                + "N1, N2:", this::capacity);
        sentence("0 <= M1", () -> bounds(M1, 0, 399));
        sentence("M1 < N1", this::lowLimitBelowNormal);
        sentence("N1 < N2", this::normalBoundsApart);
        sentence("N2 < M2", this::normalBelowHighLimit);
        sentence("M2 <= C", this::highLimitWithinCapacity);
        sentence("most steam W (0 to 100000);", this::mostSteam);
        sentence("U1, U2 (0 to 100000):", this::steamChangeBounds);
        sentence("by how much more, less steam there may be a cycle later;", this::steamChanges);
        sentence("P (1 to 100000): what a pump gives a cycle.", this::pumpRate);
        sentence("UNITS 0..9: 0 the level, 1 the steam, 2..5 the pumps 0..3, 6..9 what tells that they give.",
                this::units);
        sentence("Each is GOOD, or has FAILED, and that was ACKNOWLEDGED or not.", this::statesOfAUnit);
        sentence("MODES: 0 INITIAL, 1 NORMAL, 2 DEGRADED, 3 RESCUE, 4 STOPPED.", this::modes);
        sentence("The constants: INITIAL = 0, NORMAL = 1, DEGRADED = 2, RESCUE = 3, STOPPED = 4: Modes.",
                this::modeConstants);
        sentence("At first: INITIAL, all UNITS GOOD, the pumps and the valve SHUT, the level from 0 to C, "
                + "steam from 0 to W,", this::atFirst);
        sentence("nothing received.", this::nothingReceivedAtFirst);
    }

    private void answersTheLastOf512Calls() {
        Boiler boiler = boiler("512 calls");
        int calls = 0;
        for (int cycle = 1; cycle <= 73; cycle++) {
            boiler.quiet(500, 0).desk.cycle();
            calls += Boiler.READING_CALLS + 1;
        }
        checks.equal(named("calls made"), calls, 511);
        boiler.state(9, 73);
    }

    private static int[] but(int[] sound, int place, int value) {
        int[] k = sound.clone();
        k[place] = value;
        return k;
    }

    private void takes(int... k) {
        Boiler boiler = boiler("begin" + Arrays.toString(k)).cycle(Boiler.STOPPED);
        boiler.begin(k).states(0, k[C], 0, k[W], 0, 0, 0, 0, Boiler.INITIAL, 0);
    }

    private void refuses(int... k) {
        Boiler boiler = boiler("begin" + Arrays.toString(k)).cycle(Boiler.STOPPED);
        illegalArgument("begin" + Arrays.toString(k), () -> boiler.begin(k));
        boiler.states(0, 1000, 0, 50, 0, 0, 0, 0, Boiler.STOPPED, 1);
    }

    /** With the other constants those of a new object. */
    private void bounds(int place, int least, int greatest) {
        takes(but(CONSTANTS_OF_A_NEW_OBJECT, place, least));
        takes(but(CONSTANTS_OF_A_NEW_OBJECT, place, greatest));
        refuses(but(CONSTANTS_OF_A_NEW_OBJECT, place, least - 1));
        refuses(but(CONSTANTS_OF_A_NEW_OBJECT, place, greatest + 1));
        refuses(but(CONSTANTS_OF_A_NEW_OBJECT, place, Integer.MIN_VALUE));
        refuses(but(CONSTANTS_OF_A_NEW_OBJECT, place, Integer.MAX_VALUE));
    }

    private void capacity() {
        bounds(C, 900, 1000000);
        takes(GREATEST);
        refuses(1000001, 999998, 999999, 1000000, 1000001, 0, 0, 0, 1);
        takes(LEAST);
        refuses(2, 0, 1, 2, 3, 0, 0, 0, 1);
        refuses(0, 0, 0, 0, 0, 0, 0, 0, 1);
        refuses(2, -1, 0, 1, 2, 0, 0, 0, 1);
    }

    private void lowLimitBelowNormal() {
        bounds(M1, 0, 399);
        bounds(N1, 101, 599);
    }

    private void normalBoundsApart() {
        bounds(N1, 101, 599);
        bounds(N2, 401, 899);
    }

    private void normalBelowHighLimit() {
        bounds(N2, 401, 899);
        bounds(M2, 601, 1000);
    }

    private void highLimitWithinCapacity() {
        bounds(M2, 601, 1000);
        bounds(C, 900, 1000000);
    }

    private void mostSteam() {
        bounds(W, 0, 100000);
        boiler("W 0, steam 0").begin(but(LEAST, W, 0)).quiet(1, 0).cycle(Boiler.INITIAL).failed(0);
        boiler("W 0, steam 1").begin(but(LEAST, W, 0)).quiet(1, 1).cycle(Boiler.STOPPED).failed(Boiler.STEAM);
        boiler("W 100000, all of it").begin(GREATEST).quiet(1, 100000).cycle(Boiler.INITIAL).failed(0);
        boiler("W 100000, one more").begin(GREATEST).quiet(1, 100001).cycle(Boiler.STOPPED).failed(Boiler.STEAM);
    }

    private void steamChangeBounds() {
        bounds(U1, 0, 100000);
        bounds(U2, 0, 100000);
    }

    private void steamChanges() {
        steamAfter(4, 0, 0, 0, true);
        steamAfter(4, 0, 0, 1, false);
        steamAfter(4, 1, 0, 1, true);
        steamAfter(4, 1, 0, 2, false);
        steamAfter(100000, 100000, 0, 100000, true);
        Boiler falling = boiler("U2 2").begin(1000000, 0, 400000, 600000, 1000000, 9, 9, 2, 1).started(500000);
        falling.quiet(499999, 9).cycle(Boiler.NORMAL).quiet(499990, 7).cycle(Boiler.NORMAL).failed(0);
        falling.quiet(499983, 4).cycle(Boiler.DEGRADED).failed(Boiler.STEAM);
        Boiler stays = boiler("U2 0").begin(1000000, 0, 400000, 600000, 1000000, 9, 9, 0, 1).started(500000);
        stays.quiet(499999, 9).cycle(Boiler.NORMAL).quiet(499990, 9).cycle(Boiler.NORMAL).failed(0);
        stays.quiet(499981, 8).cycle(Boiler.DEGRADED).failed(Boiler.STEAM);
        boiler("U2 100000").begin(1000000, 0, 400000, 600000, 1000000, 100000, 100000, 100000, 1).started(500000)
                .quiet(450000, 100000).cycle(Boiler.NORMAL).quiet(440000, 0).cycle(Boiler.NORMAL).failed(0);
    }

    /** From no steam to this much in one cycle. */
    private void steamAfter(int w, int u1, int u2, int steam, boolean isGood) {
        boiler("U1 " + u1 + ", steam " + steam).begin(1000000, 0, 400000, 600000, 1000000, w, u1, u2, 1)
                .started(500000).quiet(500000, steam).cycle(isGood ? Boiler.NORMAL : Boiler.DEGRADED)
                .failed(isGood ? 0 : Boiler.STEAM);
    }

    private void pumpRate() {
        bounds(P, 1, 100000);
        for (int p : new int[] {1, 100000}) {
            boiler("P " + p).begin(1000000, 0, 400000, 500000, 1000000, 0, 0, 0, p).startedPumping(0, 400000)
                    .readings(-1, 0, Boiler.ALL, Boiler.ALL).cycle(Boiler.RESCUE).levelFrom(400000, 400000 + 4 * p);
        }
    }

    private void units() {
        for (int unit = 0; unit <= 9; unit++) {
            withFailed(unit, "the bit of a unit").failed(1 << unit).detected(1 << unit);
        }
        Boiler boiler = boiler("units that are none");
        illegalArgument("unit -1", () -> boiler.repair(-1));
        illegalArgument("unit 10", () -> boiler.repair(10));
    }

    private void statesOfAUnit() {
        for (int unit = 0; unit <= 9; unit++) {
            int bit = 1 << unit;
            int mode = unit == 0 ? Boiler.RESCUE : Boiler.DEGRADED;
            boiler("good").started(500).failed(0).acknowledged(0);
            withFailed(unit, "failed").acknowledged(0)
                    .quiet(500, 0).acknowledge(unit).cycle(mode).failed(bit).acknowledged(bit)
                    .quiet(500, 0).cycle(mode).failed(bit).acknowledged(bit)
                    .quiet(500, 0).repair(unit).cycle(Boiler.NORMAL).failed(0).acknowledged(0);
        }
    }

    private void modes() {
        boiler("0").quiet(500, 0).cycle(0);
        boiler("1").quiet(500, 0).say(Boiler.WAITING).say(Boiler.READY).cycle(1);
        boiler("2").started(500).quiet(500, -1).cycle(2);
        boiler("3").started(500).quiet(-1, 0).cycle(3);
        boiler("4").cycle(4);
    }

    private void modeConstants() {
        checks.equal("INITIAL", BoilerDesk.INITIAL, 0);
        checks.equal("NORMAL", BoilerDesk.NORMAL, 1);
        checks.equal("DEGRADED", BoilerDesk.DEGRADED, 2);
        checks.equal("RESCUE", BoilerDesk.RESCUE, 3);
        checks.equal("STOPPED", BoilerDesk.STOPPED, 4);
    }

    private void atFirst() {
        boiler("new").asNew();
        boiler("begun").begin(2000, 1, 2, 3, 4, 70, 5, 5, 15)
                .states(0, 2000, 0, 70, 0, 0, 0, 0, Boiler.INITIAL, 0).toldNothing();
        // What the pumps say in the first cycle is compared with pumps that are shut, and that were shut before.
        boiler("pumps shut").quiet(500, 0).cycle(Boiler.INITIAL).detected(0);
        boiler("pumps not on").readings(500, 0, Boiler.ALL, Boiler.NONE).cycle(Boiler.INITIAL).detected(0b111100);
        boiler("pumps not on before").startedPumping(399, 400).detected(0);
    }

    private void nothingReceivedAtFirst() {
        boiler("nothing at all").cycle(Boiler.STOPPED);
        for (int call = 0; call < Boiler.READING_CALLS; call++) {
            boiler("reading " + call + " missing").readingsBut(call, 500, 0, 0, 0).cycle(Boiler.STOPPED);
        }
        boiler("no WAITING").quiet(300, 9).cycle(Boiler.INITIAL).toldNothing();
        boiler("no READY").quiet(500, 0).say(Boiler.WAITING).cycle(Boiler.INITIAL);
        Boiler stops = boiler("no STOP before");
        stops.quiet(500, 0).say(Boiler.STOP).cycle(Boiler.INITIAL).quiet(500, 0).say(Boiler.STOP).cycle(Boiler.INITIAL);
    }
}
