/** Promise 9: what the latest cycle told, and what is told of none. */
public final class Promise09ToldTest {
    private static final Checks CHECKS = new Checks();

    public static void main(String[] args) {
        refusesOtherNumbers();
        tellsOfTheLatestCycleOnly();
        keepsWhatWasFoundBeforeStopping();
        tellsNothingWhileStopped();
        CHECKS.end();
    }

    private static void refusesOtherNumbers() {
        Boiler boiler = new Boiler(CHECKS, "wrong numbers");
        for (int wrong : new int[] {-1, 5, Integer.MIN_VALUE, Integer.MAX_VALUE}) {
            CHECKS.illegalArgument("told " + wrong, () -> boiler.desk.told(wrong));
        }
        boiler.toldNothing();
    }

    private static void tellsOfTheLatestCycleOnly() {
        Boiler boiler = new Boiler(CHECKS, "latest");
        boiler.readings(700, 0, 0b0010, 0).say(Boiler.WAITING).cycle(BoilerDesk.INITIAL)
                .told(0, 0).told(1, 1).told(2, 1 << 3).told(3, 0).told(4, 0);
        boiler.quiet(399, 0).cycle(BoilerDesk.INITIAL).told(0, 0b1101).told(1, 2).told(2, 0).told(3, 0).told(4, 0);
        // Receiving and asking change nothing of it.
        boiler.readings(500, 0, 0b1101, 0).repair(3).told(0, 0b1101).told(1, 2).state(4, 1 << 3).told(3, 0);
        boiler.cycle(BoilerDesk.INITIAL).told(0, 0b1101 << 4).told(1, 0).told(2, 0).told(3, 1 << 3).told(4, 1);
        boiler.quiet(500, 0).cycle(BoilerDesk.INITIAL).told(0, 0).told(1, 0).told(2, 0).told(3, 0).told(4, 1);
        boiler.quiet(500, 0).say(Boiler.READY).cycle(BoilerDesk.NORMAL).toldNothing();
    }

    private static void keepsWhatWasFoundBeforeStopping() {
        new Boiler(CHECKS, "detected").started(500).readings(-1, -1, 15, 15).cycle(BoilerDesk.STOPPED)
                .told(0, 0).told(2, 0b111111).told(3, 0)
                .readings(500, 0, 0, 0).cycle(BoilerDesk.STOPPED).toldNothing().failed(0b111111);
        Boiler repaired = new Boiler(CHECKS, "repaired and detected").started(500);
        repaired.quiet(500, -1).cycle(BoilerDesk.DEGRADED).quiet(-1, -1).repair(1).cycle(BoilerDesk.STOPPED)
                .told(2, 3).told(3, 2);
    }

    private static void tellsNothingWhileStopped() {
        Boiler boiler = new Boiler(CHECKS, "STOPPED").quiet(500, 0).say(Boiler.WAITING).cycle(BoilerDesk.INITIAL);
        boiler.told(4, 1).cycle(BoilerDesk.STOPPED).toldNothing();
        boiler.readings(-1, -1, 15, 15).repair(1).cycle(BoilerDesk.STOPPED).toldNothing();
        new Boiler(CHECKS, "STOPPED behind a pump's SHUT").startedPumping(300, 600).readings(610, 0, 15, 15)
                .cycle(BoilerDesk.NORMAL).commands(0, 15).cycle(BoilerDesk.STOPPED).toldNothing();
        new Boiler(CHECKS, "STOPPED behind the valve's SHUT").quiet(700, 0).say(Boiler.WAITING)
                .cycle(BoilerDesk.INITIAL).told(1, 1).quiet(500, 0).cycle(BoilerDesk.INITIAL).told(1, 2)
                .cycle(BoilerDesk.STOPPED).toldNothing();
        new Boiler(CHECKS, "pumps as they were behind their SHUT").startedPumping(300, 600).readings(601, 0, 15, 15)
                .cycle(BoilerDesk.NORMAL).commands(0, 15).quiet(599, 0).cycle(BoilerDesk.NORMAL).toldNothing();
    }
}
