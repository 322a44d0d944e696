/** Terms 3 (f): the MODE behind a cycle. */
final class StepFMode extends Group {
    StepFMode(Sentences sentences) {
        super(sentences);
    }

    @Override
    void run() {
        sentence("(f) MODE. INITIAL: level or steam FAILED: STOPPED.", this::initialWithAFailure);
        sentence("Else, if WAITING was received in this or any cycle before:", this::waiting);
        sentence("the steam received is not 0: STOPPED;", this::steamWhileWaiting);
        sentence("READY received (in this cycle), and the level received from N1 to N2, both too: NORMAL,",
                this::readyAtANormalLevel);
        sentence("or DEGRADED if a UNIT has FAILED.", this::readyWithAFailure);
        sentence("READY otherwise (without WAITING, too): STOPPED.", this::readyOtherwise);
        sentence("Others: STOPPED if the level ESTIMATED goes down to M1 or below, or up to M2 or above;",
                this::limits);
        sentence("else if the level has FAILED: RESCUE,", this::rescue);
        sentence("but STOPPED if steam has FAILED, too, or what tells of a pump;", this::noRescue);
        sentence("else DEGRADED if a UNIT has FAILED; else NORMAL.", this::degradedOrNormal);
        sentence("(READY is nothing there.)", this::readyIsNothing);
    }

    private void initialWithAFailure() {
        for (int wrong : new int[] {-1, 1001}) {
            boiler("level " + wrong).quiet(wrong, 0).cycle(Boiler.STOPPED);
            boiler("level while WAITING " + wrong).quiet(wrong, 0).say(Boiler.WAITING).cycle(Boiler.STOPPED);
        }
        for (int wrong : new int[] {-1, 51}) {
            boiler("steam " + wrong).quiet(500, wrong).cycle(Boiler.STOPPED);
        }
        for (int pumps = 1; pumps <= 15; pumps++) {
            boiler("pumps").readings(500, 0, pumps, 0).cycle(Boiler.INITIAL).failed(pumps << 2);
            boiler("tellers").readings(500, 0, 0, pumps).cycle(Boiler.INITIAL).failed(pumps << 6);
        }
        for (int level : new int[] {0, 1000}) {
            // The limits M1 and M2 are nothing in INITIAL.
            boiler("level at the edge " + level).quiet(level, 50).cycle(Boiler.INITIAL);
        }
    }

    private void waiting() {
        boiler("in this cycle").quiet(500, 0).say(Boiler.WAITING).say(Boiler.READY).cycle(Boiler.NORMAL);
        boiler("READY before it in this cycle").quiet(500, 0).say(Boiler.READY).say(Boiler.WAITING)
                .cycle(Boiler.NORMAL);
        for (int cyclesBefore = 1; cyclesBefore <= 5; cyclesBefore++) {
            Boiler boiler = boiler(cyclesBefore + " cycles before").quiet(500, 0).say(Boiler.WAITING)
                    .cycle(Boiler.INITIAL);
            for (int k = 1; k < cyclesBefore; k++) {
                boiler.quiet(500, 0).cycle(Boiler.INITIAL).told(4, 1);
            }
            boiler.quiet(500, 0).say(Boiler.READY).cycle(Boiler.NORMAL);
        }
        boiler("never").quiet(500, 0).cycle(Boiler.INITIAL).quiet(500, 0).say(Boiler.READY).cycle(Boiler.STOPPED);
    }

    private void steamWhileWaiting() {
        boiler("0").quiet(500, 0).say(Boiler.WAITING).cycle(Boiler.INITIAL);
        for (int steam : new int[] {1, 50}) {
            boiler("with WAITING").quiet(500, steam).say(Boiler.WAITING).cycle(Boiler.STOPPED).told(4, 0)
                    .steamFrom(steam, steam);
            boiler("behind WAITING").quiet(500, 0).say(Boiler.WAITING).cycle(Boiler.INITIAL)
                    .quiet(500, steam).cycle(Boiler.STOPPED);
            boiler("with READY").quiet(500, steam).say(Boiler.WAITING).say(Boiler.READY).cycle(Boiler.STOPPED);
            boiler("before WAITING").quiet(500, steam).cycle(Boiler.INITIAL)
                    .quiet(500, 0).say(Boiler.WAITING).cycle(Boiler.INITIAL);
        }
    }

    private void readyAtANormalLevel() {
        for (int level : new int[] {400, 401, 599, 600}) {
            boiler("READY at " + level).quiet(level, 0).say(Boiler.WAITING).cycle(Boiler.INITIAL)
                    .quiet(level, 0).say(Boiler.READY).cycle(Boiler.NORMAL);
            boiler("no READY at " + level).quiet(level, 0).say(Boiler.WAITING).cycle(Boiler.INITIAL)
                    .quiet(level, 0).cycle(Boiler.INITIAL);
        }
        for (int level : new int[] {399, 601}) {
            boiler("READY at " + level).quiet(level, 0).say(Boiler.WAITING).say(Boiler.READY).cycle(Boiler.STOPPED);
            boiler("no READY at " + level).quiet(level, 0).say(Boiler.WAITING).cycle(Boiler.INITIAL);
        }
        boiler("normal only in this cycle").quiet(1000, 0).say(Boiler.WAITING).cycle(Boiler.INITIAL)
                .quiet(600, 0).say(Boiler.READY).cycle(Boiler.NORMAL);
    }

    private void readyWithAFailure() {
        for (int bits = 1; bits <= 15; bits++) {
            boiler("pumps failed before").readings(500, 0, bits, 0).say(Boiler.WAITING).cycle(Boiler.INITIAL)
                    .quiet(500, 0).say(Boiler.READY).cycle(Boiler.DEGRADED).failed(bits << 2);
            boiler("pumps failing now").readings(500, 0, bits, 0).say(Boiler.WAITING).say(Boiler.READY)
                    .cycle(Boiler.DEGRADED);
            boiler("tellers failing now").readings(500, 0, 0, bits).say(Boiler.WAITING).say(Boiler.READY)
                    .cycle(Boiler.DEGRADED);
        }
        boiler("acknowledged").readings(500, 0, 1, 0).say(Boiler.WAITING).cycle(Boiler.INITIAL)
                .quiet(500, 0).acknowledge(2).say(Boiler.READY).cycle(Boiler.DEGRADED);
        boiler("repaired now").readings(500, 0, 1, 0).say(Boiler.WAITING).cycle(Boiler.INITIAL)
                .quiet(500, 0).repair(2).say(Boiler.READY).cycle(Boiler.NORMAL);
    }

    private void readyOtherwise() {
        for (int level : new int[] {0, 399, 400, 500, 600, 601, 1000}) {
            boiler("without WAITING at " + level).quiet(level, 0).say(Boiler.READY).cycle(Boiler.STOPPED).toldNothing();
        }
        for (int level : new int[] {0, 399, 601, 1000}) {
            boiler("with WAITING at " + level).quiet(level, 0).say(Boiler.WAITING).say(Boiler.READY)
                    .cycle(Boiler.STOPPED).toldNothing();
            boiler("behind WAITING at " + level).quiet(500, 0).say(Boiler.WAITING).cycle(Boiler.INITIAL)
                    .quiet(level, 0).say(Boiler.READY).cycle(Boiler.STOPPED).toldNothing();
        }
        boiler("no READY, no WAITING").quiet(500, 1).cycle(Boiler.INITIAL);
    }

    private void limits() {
        for (int level : new int[] {0, 99, 100, 900, 901, 1000}) {
            levelComes(level, Boiler.STOPPED);
        }
        for (int level : new int[] {101, 500, 899}) {
            levelComes(level, Boiler.NORMAL);
        }
        downTo(101, Boiler.RESCUE);
        downTo(100, Boiler.STOPPED);
        downTo(99, Boiler.STOPPED);
        upTo(499, 899, Boiler.RESCUE);
        upTo(500, 900, Boiler.STOPPED);
        upTo(501, 901, Boiler.STOPPED);
        edgeInDegraded(101, Boiler.DEGRADED);
        edgeInDegraded(100, Boiler.STOPPED);
        edgeInDegraded(899, Boiler.DEGRADED);
        edgeInDegraded(900, Boiler.STOPPED);
    }

    /** The rates are so large that every level may come next. */
    private void levelComes(int level, int mode) {
        boiler("level " + level).begin(1000, 100, 400, 600, 900, 1000, 1000, 1000, 1000).startedPumping(300, 500)
                .readings(level, 0, 15, 15).cycle(mode).failed(0).levelFrom(level, level)
                .commands(0, level == 899 ? 15 : 0);
    }

    /** The level received is lost: it may have sunk from 500 to this. */
    private void downTo(int from, int mode) {
        boiler("down to " + from).begin(1000, 100, 400, 600, 900, 500 - from, 500, 0, 1).started(500)
                .quiet(-1, 0).cycle(mode).levelFrom(from, 500);
    }

    /** The level received is lost: it may have risen by 400 to this. */
    private void upTo(int level, int to, int mode) {
        boiler("up to " + to).begin(1000, 100, 400, 600, 900, 0, 0, 0, 100).startedPumping(300, level)
                .readings(-1, 0, 15, 15).cycle(mode).levelFrom(level, to);
    }

    private void edgeInDegraded(int level, int mode) {
        boiler("steam has failed, level " + level).begin(1000, 100, 400, 600, 900, 1000, 1000, 1000, 1000)
                .startedPumping(300, 500).readings(level, 1001, 15, 15).cycle(mode).failed(Boiler.STEAM);
    }

    private void rescue() {
        boiler("level alone").started(500).quiet(-1, 0).cycle(Boiler.RESCUE).quiet(500, 0).cycle(Boiler.RESCUE);
        boiler("level good").started(500).quiet(500, 0).cycle(Boiler.NORMAL);
        for (int pumps = 1; pumps <= 15; pumps++) {
            boiler("level and pumps " + pumps).started(500).readings(-1, 0, pumps, 0).cycle(Boiler.RESCUE)
                    .failed(Boiler.LEVEL | pumps << 2);
        }
        boiler("repaired").started(500).quiet(-1, 0).cycle(Boiler.RESCUE).quiet(500, 0).repair(0).cycle(Boiler.NORMAL);
        boiler("acknowledged").started(500).quiet(-1, 0).cycle(Boiler.RESCUE)
                .quiet(500, 0).acknowledge(0).cycle(Boiler.RESCUE);
    }

    private void noRescue() {
        boiler("level and steam").started(500).quiet(-1, -1).cycle(Boiler.STOPPED).detected(3);
        boiler("steam behind level").started(500).quiet(-1, 0).cycle(Boiler.RESCUE)
                .quiet(-1, 50).cycle(Boiler.STOPPED);
        boiler("level behind steam").started(500).quiet(500, 50).cycle(Boiler.DEGRADED)
                .quiet(-1, 0).cycle(Boiler.STOPPED);
        boiler("level behind steam, which is repaired").started(500).quiet(500, 50).cycle(Boiler.DEGRADED)
                .quiet(-1, 0).repair(1).cycle(Boiler.RESCUE);
        for (int pump = 0; pump < 4; pump++) {
            int bit = 1 << pump;
            boiler("level and teller " + pump).started(500).readings(-1, 0, 0, bit).cycle(Boiler.STOPPED);
            boiler("teller behind level " + pump).started(500).quiet(-1, 0).cycle(Boiler.RESCUE)
                    .readings(-1, 0, 0, bit).cycle(Boiler.STOPPED);
            boiler("level behind teller " + pump).started(500).readings(500, 0, 0, bit).cycle(Boiler.DEGRADED)
                    .quiet(-1, 0).cycle(Boiler.STOPPED);
            boiler("level behind teller, which is repaired " + pump).started(500).readings(500, 0, 0, bit)
                    .cycle(Boiler.DEGRADED).quiet(-1, 0).repair(6 + pump).cycle(Boiler.RESCUE);
        }
        boiler("steam and teller, but not the level").started(500).readings(500, -1, 0, 1).cycle(Boiler.DEGRADED);
    }

    private void degradedOrNormal() {
        for (int unit = 1; unit <= 9; unit++) {
            withFailed(unit, "one failed").state(8, Boiler.DEGRADED).quiet(500, 0).cycle(Boiler.DEGRADED)
                    .quiet(500, 0).acknowledge(unit).cycle(Boiler.DEGRADED)
                    .quiet(500, 0).repair(unit).cycle(Boiler.NORMAL);
        }
        boiler("all but the level").started(500).readings(500, -1, 0b0111, 0b1000).cycle(Boiler.DEGRADED)
                .failed(0b1000011110);
        boiler("none").started(500).quiet(500, 0).cycle(Boiler.NORMAL);
        Boiler modes = boiler("from each mode to the others").started(500);
        modes.readings(500, 0, 0, 4).cycle(Boiler.DEGRADED);
        modes.quiet(-1, 0).repair(8).cycle(Boiler.RESCUE);
        modes.readings(500, 0, 2, 0).repair(0).cycle(Boiler.DEGRADED);
        modes.quiet(500, 0).repair(3).cycle(Boiler.NORMAL).quiet(-1, 0).cycle(Boiler.RESCUE);
        modes.quiet(500, 0).repair(0).cycle(Boiler.NORMAL);
    }

    private void readyIsNothing() {
        boiler("NORMAL, at a normal level").started(500).quiet(500, 0).say(Boiler.READY).cycle(Boiler.NORMAL);
        boiler("NORMAL, below N1 and with steam").started(400).quiet(399, 3).say(Boiler.READY).cycle(Boiler.NORMAL);
        boiler("NORMAL, above N2").startedPumping(300, 600).readings(601, 0, 15, 15).say(Boiler.READY)
                .cycle(Boiler.NORMAL);
        boiler("with WAITING and steam").started(500).quiet(500, 3).say(Boiler.WAITING).say(Boiler.READY)
                .cycle(Boiler.NORMAL).told(4, 0);
        inMode(Boiler.DEGRADED, "READY").quiet(500, 3).say(Boiler.READY).cycle(Boiler.DEGRADED);
        inMode(Boiler.RESCUE, "READY").quiet(-1, 3).say(Boiler.READY).cycle(Boiler.RESCUE);
    }
}
