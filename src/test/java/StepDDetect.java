/** Terms 3 (d): which units are found to have failed. */
final class StepDDetect extends Group {
    /** The rates are so large that every level and all steam may come next. */
    private static final int[] ALL_MAY_COME = {1000, 100, 400, 600, 900, 1000, 1000, 1000, 1000};

    StepDDetect(Sentences sentences) {
        super(sentences);
    }

    @Override
    void run() {
        sentence("(d) FAILED from now on (told as DETECTED; only UNITS that are GOOD now;", this::onlyGoodUnits);
        sentence("what is EXPECTED does not change by that):", this::expectedStays);
        sentence("the level, if it is not from 0 to C,", this::levelBeyondCapacity);
        sentence("or, but in INITIAL, not as EXPECTED;", this::levelNotAsExpected);
        sentence("steam likewise with W;", this::steam);
        sentence("a pump: it says on and is SHUT, or the other way round;", this::pumps);
        sentence("what tells of a pump that is GOOD (not DETECTED just now either):", this::tellersOfGoodPumps);
        sentence("it says that it gives and the pump is SHUT, or it says not, and the pump is on and was on at the end "
                + "of the cycle before that one, too.", this::tellers);
        sentence("(Is: at the end of the cycle before.)", this::atTheEndOfTheCycleBefore);
        sentence("UNITS in their order; in INITIAL, too.", this::inInitialToo);
    }

    private void onlyGoodUnits() {
        for (int unit = 0; unit <= 9; unit++) {
            int bit = 1 << unit;
            Boiler boiler = withFailed(unit, "failed from now on").detected(bit);
            int mode = boiler.desk.state(8);
            int on = unit >= 2 && unit < 6 ? 1 << unit - 2 : 0;
            int gives = unit >= 6 ? 1 << unit - 6 : 0;
            boiler.readings(unit == 0 ? -1 : 500, unit == 1 ? -1 : 0, on, gives).cycle(mode).detected(0).failed(bit);
            // A reading as it should be does not make a unit good again, nor does the acknowledgement.
            boiler.quiet(500, 0).acknowledge(unit).cycle(mode).detected(0).failed(bit);
            // Good now by its repair, it is looked at.
            boiler.readings(unit == 0 ? -1 : 500, unit == 1 ? -1 : 0, on, gives).repair(unit).cycle(mode)
                    .repaired(bit).detected(bit).failed(bit).acknowledged(0);
        }
    }

    private void expectedStays() {
        boiler("a pump is detected in the same cycle").started(500).readings(501, 0, 0b0001, 0).cycle(Boiler.RESCUE)
                .detected(Boiler.LEVEL | Boiler.pumpUnit(0)).levelFrom(495, 500);
        boiler("what tells of a pump, too").started(500).readings(501, 0, 0, 0b0001).cycle(Boiler.STOPPED)
                .detected(Boiler.LEVEL | Boiler.teller(0)).levelFrom(495, 500);
        boiler("steam, too").started(500).quiet(501, 6).cycle(Boiler.STOPPED)
                .detected(Boiler.LEVEL | Boiler.STEAM).levelFrom(495, 500).steamFrom(0, 5);
        // One cycle later the pump may give.
        boiler("one cycle later").started(500).readings(500, 0, 0b0001, 0).cycle(Boiler.DEGRADED)
                .quiet(515, 0).cycle(Boiler.DEGRADED).detected(0);
        boiler("one cycle later, beyond").started(500).readings(500, 0, 0b0001, 0).cycle(Boiler.DEGRADED)
                .quiet(516, 0).cycle(Boiler.RESCUE).detected(Boiler.LEVEL).levelFrom(495, 515);
    }

    private void levelBeyondCapacity() {
        for (int level : new int[] {0, 1, 999, 1000}) {
            boiler("INITIAL, level " + level).quiet(level, 0).cycle(Boiler.INITIAL).detected(0).failed(0);
            boiler("NORMAL, level " + level).begin(ALL_MAY_COME).startedPumping(300, 500)
                    .readings(level, 0, Boiler.ALL, Boiler.ALL).cycle(Boiler.STOPPED).detected(0).failed(0);
        }
        for (int level : new int[] {Integer.MIN_VALUE, -1, 1001, Integer.MAX_VALUE}) {
            boiler("INITIAL, level " + level).quiet(level, 0).cycle(Boiler.STOPPED)
                    .detected(Boiler.LEVEL).failed(Boiler.LEVEL);
            boiler("NORMAL, level " + level).begin(ALL_MAY_COME).startedPumping(300, 500)
                    .readings(level, 0, Boiler.ALL, Boiler.ALL).cycle(Boiler.STOPPED).detected(Boiler.LEVEL);
            boiler("NORMAL, small rates, level " + level).started(500).quiet(level, 0).cycle(Boiler.RESCUE)
                    .detected(Boiler.LEVEL).levelFrom(495, 500);
        }
    }

    private void levelNotAsExpected() {
        for (int level : new int[] {495, 496, 499, 500}) {
            boiler("expected: " + level).started(500).quiet(level, 0).cycle(Boiler.NORMAL).detected(0);
        }
        for (int level : new int[] {0, 494, 501, 1000}) {
            boiler("not expected: " + level).started(500).quiet(level, 0).cycle(Boiler.RESCUE).detected(Boiler.LEVEL);
            boiler("in INITIAL: " + level).quiet(500, 0).cycle(Boiler.INITIAL).quiet(level, 0).cycle(Boiler.INITIAL)
                    .detected(0);
        }
        boiler("the cycle in which INITIAL ends").quiet(1000, 0).cycle(Boiler.INITIAL).started(500).detected(0);
    }

    private void steam() {
        for (int steam : new int[] {0, 1, 49, 50}) {
            boiler("INITIAL, steam " + steam).quiet(500, steam).cycle(Boiler.INITIAL).detected(0).failed(0);
            boiler("NORMAL, steam " + steam).begin(1000, 100, 400, 600, 900, 50, 100, 100, 15).started(500)
                    .quiet(500, steam).cycle(Boiler.NORMAL).detected(0);
        }
        for (int steam : new int[] {Integer.MIN_VALUE, -1, 51, Integer.MAX_VALUE}) {
            boiler("INITIAL, steam " + steam).quiet(500, steam).cycle(Boiler.STOPPED)
                    .detected(Boiler.STEAM).failed(Boiler.STEAM);
            boiler("NORMAL, steam " + steam).begin(1000, 100, 400, 600, 900, 50, 100, 100, 15).started(500)
                    .quiet(500, steam).cycle(Boiler.DEGRADED).detected(Boiler.STEAM).steamFrom(0, 50);
        }
        for (int steam : new int[] {7, 8, 15, 16}) {
            behindTenOfSteam().quiet(480, steam).cycle(Boiler.NORMAL).detected(0);
        }
        for (int steam : new int[] {0, 6, 17, 50}) {
            behindTenOfSteam().quiet(480, steam).cycle(Boiler.DEGRADED).detected(Boiler.STEAM).steamFrom(7, 16);
            boiler("INITIAL, any steam behind 10").quiet(500, 10).cycle(Boiler.INITIAL)
                    .quiet(500, steam).cycle(Boiler.INITIAL).detected(0);
        }
    }

    /** Steam is expected from 7 to 16, and the level from 474 to 483. */
    private Boiler behindTenOfSteam() {
        return boiler("steam expected from 7 to 16").begin(1000, 100, 400, 600, 900, 50, 6, 3, 15).started(500)
                .quiet(500, 5).cycle(Boiler.NORMAL).quiet(490, 10).cycle(Boiler.NORMAL).steamFrom(10, 10);
    }

    private void pumps() {
        for (int says = 0; says <= 15; says++) {
            boiler("shut, on say " + says).started(500).readings(500, 0, says, 0)
                    .cycle(says == 0 ? Boiler.NORMAL : Boiler.DEGRADED).detected(says << 2).pumpsOn(0);
            boiler("on, on say " + says).startedPumping(300, 400).readings(400, 0, says, Boiler.ALL)
                    .cycle(says == 15 ? Boiler.NORMAL : Boiler.DEGRADED).detected((15 & ~says) << 2).pumpsOn(15);
        }
    }

    private void tellersOfGoodPumps() {
        for (int pump = 0; pump < 4; pump++) {
            int bit = 1 << pump;
            boiler("good pump " + pump).started(500).readings(500, 0, 0, bit).cycle(Boiler.DEGRADED)
                    .detected(Boiler.teller(pump));
            Boiler boiler = boiler("pump detected just now " + pump).started(500);
            boiler.readings(500, 0, bit, bit).cycle(Boiler.DEGRADED).detected(Boiler.pumpUnit(pump));
            boiler.readings(500, 0, 0, bit).cycle(Boiler.DEGRADED).detected(0).failed(Boiler.pumpUnit(pump));
            // With the pump good again what tells of it is looked at in the same cycle.
            boiler.readings(500, 0, 0, bit).repair(2 + pump).cycle(Boiler.DEGRADED)
                    .repaired(Boiler.pumpUnit(pump)).detected(Boiler.teller(pump)).failed(Boiler.teller(pump));
            boiler("on, pump detected just now " + pump).startedPumping(300, 400)
                    .readings(400, 0, Boiler.ALL & ~bit, Boiler.ALL & ~bit).cycle(Boiler.DEGRADED)
                    .detected(Boiler.pumpUnit(pump));
            int next = (pump + 1) % 4;
            boiler("another pump has failed").started(500).readings(500, 0, bit, 1 << next).cycle(Boiler.DEGRADED)
                    .detected(Boiler.pumpUnit(pump) | Boiler.teller(next));
        }
    }

    /** All that a pump can have been at the ends of both cycles before, and all that can be told of it. */
    private void tellers() {
        for (int gives = 0; gives <= 15; gives++) {
            int says = gives;
            int saysNot = 15 & ~gives;
            boiler("shut, shut before").started(500).readings(500, 0, 0, gives)
                    .cycle(modeWith(says)).detected(says << 6);
            boiler("shut, on before").startedPumping(300, 600).readings(601, 0, 15, 15).cycle(Boiler.NORMAL)
                    .commands(0, 15).readings(601, 0, 0, gives).cycle(modeWith(says)).detected(says << 6);
            boiler("on, shut before").started(400).quiet(399, 0).cycle(Boiler.NORMAL).commands(15, 0)
                    .readings(399, 0, 15, gives).cycle(Boiler.NORMAL).detected(0);
            boiler("on, on before").startedPumping(300, 400).readings(400, 0, 15, gives)
                    .cycle(modeWith(saysNot)).detected(saysNot << 6);
        }
    }

    private static int modeWith(int failed) {
        return failed == 0 ? Boiler.NORMAL : Boiler.DEGRADED;
    }

    private void atTheEndOfTheCycleBefore() {
        // In each cycle the level asks for the other command: what is told in it is nothing to what is said in it.
        Boiler boiler = boiler("commands").quiet(300, 0).say(Boiler.WAITING).cycle(Boiler.INITIAL).commands(15, 0);
        boiler.readings(500, 0, 15, 0).cycle(Boiler.INITIAL).commands(0, 15).detected(0);
        boiler.quiet(300, 0).cycle(Boiler.INITIAL).commands(15, 0).detected(0);
        boiler.readings(500, 0, 15, 15).cycle(Boiler.INITIAL).commands(0, 15).detected(0);
        boiler.readings(300, 0, 15, 0).cycle(Boiler.INITIAL).commands(0, 0).detected(0b111100);
    }

    private void inInitialToo() {
        boiler("pump and teller").readings(500, 0, 0b0001, 0b0010).cycle(Boiler.INITIAL)
                .detected(Boiler.pumpUnit(0) | Boiler.teller(1));
        boiler("a pump before what tells of it").readings(500, 0, Boiler.ALL, Boiler.ALL).cycle(Boiler.INITIAL)
                .detected(0b111100);
        Boiler pumping = boiler("teller of a pump on").quiet(300, 0).say(Boiler.WAITING).cycle(Boiler.INITIAL);
        pumping.readings(300, 0, 15, 0).cycle(Boiler.INITIAL).detected(0);
        pumping.readings(300, 0, 15, 0b0111).cycle(Boiler.INITIAL).detected(Boiler.teller(3));
        boiler("level and steam").quiet(-1, -1).cycle(Boiler.STOPPED).detected(Boiler.LEVEL | Boiler.STEAM);
    }
}
