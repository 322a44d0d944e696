/** Terms 3 (g): the COMMANDS to the pumps and the valve, and PROGRAM READY. */
final class StepGCommand extends Group {
    StepGCommand(Sentences sentences) {
        super(sentences);
    }

    @Override
    void run() {
        sentence("(g) COMMANDS. STOPPED: none (pumps and valve stay as they were).", this::noneWhenStopped);
        sentence("INITIAL, WAITING (as above): the valve is open just if the level is above N2;", this::valveInInitial);
        sentence("the pumps that are GOOD are on if it is below N1 (others as they were), else all are SHUT;",
                this::pumpsInInitial);
        sentence("PROGRAM READY is told if it is from N1 to N2.", this::programReady);
        sentence("INITIAL before WAITING: none.", this::noneBeforeWaiting);
        sentence("Others (also in the CYCLE in which INITIAL ends): the valve is SHUT;", this::valveShut);
        sentence("if the level ESTIMATED may be above N2, and not below N1: all pumps SHUT;", this::above);
        sentence("below N1, and not above N2: those that are GOOD on;", this::below);
        sentence("both: those that are GOOD on if N1 less its lesser one is more than its greater one less N2, "
                + "else all SHUT;", this::both);
        sentence("neither: as they were.", this::neither);
        sentence("What is told to be what it is already is told nothing.", this::toldOnlyChanges);
    }

    private Boiler waitingAt(int level) {
        return boiler("WAITING at " + level).quiet(level, 0).say(Boiler.WAITING).cycle(Boiler.INITIAL);
    }

    private void noneWhenStopped() {
        waitingAt(700).quiet(500, 1).cycle(Boiler.STOPPED).toldNothing().state(7, 1)
                .quiet(500, 0).cycle(Boiler.STOPPED).toldNothing().state(7, 1);
        waitingAt(500).quiet(700, 1).cycle(Boiler.STOPPED).toldNothing().state(7, 0);
        waitingAt(500).quiet(300, 1).cycle(Boiler.STOPPED).toldNothing().pumpsOn(0);
        waitingAt(300).readings(500, 1, 15, 15).cycle(Boiler.STOPPED).toldNothing().pumpsOn(15);
        waitingAt(700).quiet(601, 0).say(Boiler.READY).cycle(Boiler.STOPPED).toldNothing().state(7, 1);
        boiler("pumps stay on").startedPumping(300, 600).readings(620, 0, 15, 15).acknowledge(0).cycle(Boiler.STOPPED)
                .toldNothing().pumpsOn(15).quiet(700, 0).cycle(Boiler.STOPPED).toldNothing().pumpsOn(15);
        boiler("stopped by the mode").startedPumping(300, 600).readings(-1, 51, 15, 15).cycle(Boiler.STOPPED)
                .commands(0, 0).pumpsOn(15);
        boiler("pumps stay shut").started(400).quiet(-1, 51).cycle(Boiler.STOPPED).commands(0, 0).pumpsOn(0);
    }

    private void valveInInitial() {
        for (int level : new int[] {0, 399, 400, 600}) {
            waitingAt(level).told(1, 0).state(7, 0);
            waitingAt(700).told(1, 1).quiet(level, 0).cycle(Boiler.INITIAL).told(1, 2).state(7, 0);
        }
        for (int level : new int[] {601, 1000}) {
            waitingAt(level).told(1, 1).state(7, 1);
            waitingAt(700).quiet(level, 0).cycle(Boiler.INITIAL).told(1, 0).state(7, 1);
        }
    }

    private void pumpsInInitial() {
        for (int level : new int[] {0, 399}) {
            waitingAt(level).commands(15, 0).pumpsOn(15);
        }
        for (int level : new int[] {400, 600, 601, 1000}) {
            waitingAt(level).commands(0, 0).pumpsOn(0);
            waitingAt(300).readings(level, 0, 15, 15).cycle(Boiler.INITIAL).commands(0, 15).pumpsOn(0);
        }
        for (int pumps = 1; pumps <= 15; pumps++) {
            int good = 15 & ~pumps;
            boiler("failed while shut: " + pumps).readings(399, 0, pumps, 0).say(Boiler.WAITING).cycle(Boiler.INITIAL)
                    .failed(pumps << 2).commands(good, 0).pumpsOn(good);
            waitingAt(300).readings(399, 0, good, 0).cycle(Boiler.INITIAL).failed(pumps << 2).commands(0, 0).pumpsOn(15)
                    .readings(400, 0, 15, 15).cycle(Boiler.INITIAL).commands(0, 15).pumpsOn(0);
            boiler("tellers failed: " + pumps).readings(399, 0, 0, pumps).say(Boiler.WAITING).cycle(Boiler.INITIAL)
                    .failed(pumps << 6).commands(15, 0);
        }
        boiler("repaired").readings(399, 0, 0b0010, 0).say(Boiler.WAITING).cycle(Boiler.INITIAL).pumpsOn(0b1101)
                .readings(399, 0, 0b1101, 0).repair(3).cycle(Boiler.INITIAL).commands(0b0010, 0).pumpsOn(15);
    }

    private void programReady() {
        for (int level : new int[] {400, 401, 599, 600}) {
            waitingAt(level).told(4, 1).quiet(level, 0).cycle(Boiler.INITIAL).told(4, 1);
            boiler("READY at " + level).started(level).told(4, 0);
        }
        for (int level : new int[] {0, 399, 601, 1000}) {
            waitingAt(level).told(4, 0);
        }
    }

    private void noneBeforeWaiting() {
        for (int level : new int[] {0, 399, 400, 600, 601, 1000}) {
            boiler("no WAITING at " + level).quiet(level, 0).cycle(Boiler.INITIAL).toldNothing().pumpsOn(0).state(7, 0);
        }
        boiler("then WAITING").quiet(399, 0).cycle(Boiler.INITIAL).toldNothing()
                .quiet(399, 0).say(Boiler.WAITING).cycle(Boiler.INITIAL).commands(15, 0);
    }

    private void valveShut() {
        waitingAt(601).quiet(600, 0).say(Boiler.READY).cycle(Boiler.NORMAL).told(1, 2).state(7, 0)
                .quiet(600, 0).cycle(Boiler.NORMAL).told(1, 0).state(7, 0);
        boiler("in DEGRADED, too").readings(700, 0, 1, 0).say(Boiler.WAITING).cycle(Boiler.INITIAL).state(7, 1)
                .quiet(600, 0).say(Boiler.READY).cycle(Boiler.DEGRADED).told(1, 2).state(7, 0);
        boiler("above N2").startedPumping(300, 600).readings(640, 0, 15, 15).cycle(Boiler.NORMAL)
                .told(1, 0).state(7, 0);
    }

    private void above() {
        pumpingTo(600, 601, 15);
        pumpingTo(600, 660, 15);
        pumpingTo(600, 600, 0);
        boiler("may be 601").startedPumping(300, 541).readings(-1, 0, 15, 15).cycle(Boiler.RESCUE)
                .levelFrom(536, 601).commands(0, 15).pumpsOn(0);
        boiler("may be 600").startedPumping(300, 540).readings(-1, 0, 15, 15).cycle(Boiler.RESCUE)
                .levelFrom(535, 600).commands(0, 0).pumpsOn(15);
        for (int pumps = 1; pumps <= 15; pumps++) {
            boiler("failed ones, too: " + pumps).startedPumping(300, 600).readings(601, 0, 15 & ~pumps, 15)
                    .cycle(Boiler.DEGRADED).failed(pumps << 2).commands(0, 15).pumpsOn(0);
        }
    }

    private void pumpingTo(int before, int level, int shut) {
        boiler("level " + level).startedPumping(300, before).readings(level, 0, 15, 15).cycle(Boiler.NORMAL)
                .commands(0, shut).pumpsOn(15 & ~shut);
    }

    private void below() {
        boiler("399").started(400).quiet(399, 0).cycle(Boiler.NORMAL).commands(15, 0).pumpsOn(15);
        boiler("400").started(400).quiet(400, 0).cycle(Boiler.NORMAL).commands(0, 0).pumpsOn(0);
        boiler("may be 399").started(404).quiet(-1, 0).cycle(Boiler.RESCUE).levelFrom(399, 404).commands(15, 0);
        boiler("may be 400").started(405).quiet(-1, 0).cycle(Boiler.RESCUE).levelFrom(400, 405).commands(0, 0);
        for (int pumps = 1; pumps <= 15; pumps++) {
            int good = 15 & ~pumps;
            boiler("failed while shut: " + pumps).started(400).readings(399, 0, pumps, 0).cycle(Boiler.DEGRADED)
                    .failed(pumps << 2).commands(good, 0).pumpsOn(good);
            boiler("failed while on: " + pumps).startedPumping(300, 400).readings(399, 0, good, 15)
                    .cycle(Boiler.DEGRADED).failed(pumps << 2).commands(0, 0).pumpsOn(15);
            boiler("tellers failed: " + pumps).started(400).readings(399, 0, 0, pumps).cycle(Boiler.DEGRADED)
                    .failed(pumps << 6).commands(15, 0).pumpsOn(15);
        }
        boiler("repaired").started(400).readings(399, 0, 0b0110, 0).cycle(Boiler.DEGRADED).pumpsOn(0b1001)
                .readings(399, 0, 0b1001, 0).repair(3).cycle(Boiler.DEGRADED).commands(0b0010, 0).pumpsOn(0b1011);
    }

    /** Pumps 0 and 1 have failed while on; the level may lack w - 10 and exceed by 70. */
    private Boiler tornPumping(int w) {
        return boiler("torn while pumping, W " + w).begin(1000, 100, 490, 510, 900, w, w, 0, 20)
                .quiet(480, 0).say(Boiler.WAITING).cycle(Boiler.INITIAL).pumpsOn(15)
                .readings(500, 0, 0b1100, 0).say(Boiler.READY).cycle(Boiler.DEGRADED).pumpsOn(15)
                .readings(-1, 0, 15, 15).cycle(Boiler.RESCUE).levelFrom(500 - w, 580);
    }

    /** Pumps 0 and 1 have failed while shut; the level may lack w - 10 and exceed by 20. */
    private Boiler tornShut(int w) {
        return boiler("torn while shut, W " + w).begin(1000, 100, 490, 510, 900, w, w, 0, 15)
                .readings(500, 0, 0b0011, 0).say(Boiler.WAITING).say(Boiler.READY).cycle(Boiler.DEGRADED)
                .quiet(-1, 0).cycle(Boiler.RESCUE).levelFrom(500 - w, 530);
    }

    private void both() {
        tornPumping(81).commands(0, 0).pumpsOn(15);
        tornPumping(80).commands(0, 15).pumpsOn(0);
        tornPumping(79).commands(0, 15).pumpsOn(0);
        tornPumping(11).commands(0, 15).pumpsOn(0);
        tornShut(31).commands(0b1100, 0).pumpsOn(0b1100);
        tornShut(30).commands(0, 0).pumpsOn(0);
        tornShut(29).commands(0, 0).pumpsOn(0);
        tornShut(11).commands(0, 0).pumpsOn(0);
    }

    private void neither() {
        for (int level : new int[] {400, 430, 460}) {
            boiler("on").startedPumping(300, 400).readings(level, 0, 15, 15).cycle(Boiler.NORMAL)
                    .toldNothing().pumpsOn(15);
        }
        for (int level : new int[] {595, 600}) {
            boiler("shut").started(600).quiet(level, 0).cycle(Boiler.NORMAL).toldNothing().pumpsOn(0);
        }
        boiler("some on").started(400).readings(399, 0, 0b0110, 0).cycle(Boiler.DEGRADED).pumpsOn(0b1001)
                .readings(400, 0, 0b1001, 0).cycle(Boiler.DEGRADED).commands(0, 0).pumpsOn(0b1001);
        boiler("may be from 400 to 600").begin(1000, 100, 400, 600, 900, 0, 0, 0, 50).startedPumping(300, 400)
                .readings(-1, 0, 15, 15).cycle(Boiler.RESCUE).levelFrom(400, 600).commands(0, 0).pumpsOn(15);
        boiler("may be from 400 to 601").begin(1000, 100, 400, 600, 900, 1, 1, 0, 50).startedPumping(300, 401)
                .readings(-1, 0, 15, 15).cycle(Boiler.RESCUE).levelFrom(400, 601).commands(0, 15).pumpsOn(0);
        boiler("as INITIAL ends").quiet(300, 0).say(Boiler.WAITING).cycle(Boiler.INITIAL)
                .readings(400, 0, 15, 0).say(Boiler.READY).cycle(Boiler.NORMAL).commands(0, 0).pumpsOn(15);
    }

    private void toldOnlyChanges() {
        waitingAt(300).commands(15, 0).readings(300, 0, 15, 0).cycle(Boiler.INITIAL).commands(0, 0).pumpsOn(15)
                .readings(500, 0, 15, 15).cycle(Boiler.INITIAL).commands(0, 15)
                .quiet(500, 0).cycle(Boiler.INITIAL).commands(0, 0).pumpsOn(0);
        waitingAt(700).told(1, 1).quiet(700, 0).cycle(Boiler.INITIAL).told(1, 0).state(7, 1)
                .quiet(500, 0).cycle(Boiler.INITIAL).told(1, 2).quiet(500, 0).cycle(Boiler.INITIAL).told(1, 0);
        boiler("on already").started(400).quiet(399, 0).cycle(Boiler.NORMAL).commands(15, 0)
                .readings(399, 0, 15, 0).cycle(Boiler.NORMAL).commands(0, 0).pumpsOn(15);
        boiler("shut already").startedPumping(300, 600).readings(640, 0, 15, 15).cycle(Boiler.NORMAL).commands(0, 15)
                .quiet(640, 0).cycle(Boiler.NORMAL).commands(0, 0).told(1, 0).pumpsOn(0);
        boiler("some on already").started(400).readings(399, 0, 0b0110, 0).cycle(Boiler.DEGRADED).commands(0b1001, 0)
                .readings(399, 0, 0b1001, 0).repair(3).repair(4).cycle(Boiler.NORMAL).commands(0b0110, 0).pumpsOn(15);
        // PROGRAM READY is no command: it is told again.
        waitingAt(500).told(4, 1).quiet(500, 0).cycle(Boiler.INITIAL).told(4, 1);
    }
}
