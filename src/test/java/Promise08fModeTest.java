/** Promise 8, step (f): the mode behind a cycle. */
public final class Promise08fModeTest {
    private static final Checks CHECKS = new Checks();

    public static void main(String[] args) {
        waitsInInitial();
        leavesInitial();
        stopsInInitial();
        stopsAtTheLimits();
        stopsAtTheLimitsWithAnEstimate();
        rescues();
        goesThroughTheModes();
        CHECKS.end();
    }

    private static Boiler boiler(String name) {
        return new Boiler(CHECKS, name);
    }

    private static void waitsInInitial() {
        boiler("no WAITING").quiet(0, 50).cycle(BoilerDesk.INITIAL).quiet(1000, 0).cycle(BoilerDesk.INITIAL);
        boiler("WAITING at any level").quiet(0, 0).say(Boiler.WAITING).cycle(BoilerDesk.INITIAL)
                .readings(1000, 0, 15, 0).cycle(BoilerDesk.INITIAL).failed(0);
    }

    private static void leavesInitial() {
        for (int level : new int[] {400, 600}) {
            boiler("READY at " + level).quiet(level, 0).say(Boiler.WAITING).cycle(BoilerDesk.INITIAL)
                    .quiet(level, 0).cycle(BoilerDesk.INITIAL)
                    .quiet(level, 0).say(Boiler.READY).cycle(BoilerDesk.NORMAL);
            boiler("both at once at " + level).quiet(level, 0).say(Boiler.READY).say(Boiler.WAITING)
                    .cycle(BoilerDesk.NORMAL);
        }
        boiler("pump failed before").readings(500, 0, 1, 0).say(Boiler.WAITING).cycle(BoilerDesk.INITIAL)
                .quiet(500, 0).say(Boiler.READY).cycle(BoilerDesk.DEGRADED);
        boiler("teller failed now").readings(500, 0, 0, 8).say(Boiler.WAITING).say(Boiler.READY)
                .cycle(BoilerDesk.DEGRADED);
        boiler("steam before WAITING").quiet(500, 20).cycle(BoilerDesk.INITIAL)
                .quiet(500, 0).say(Boiler.WAITING).say(Boiler.READY).cycle(BoilerDesk.NORMAL);
    }

    private static void stopsInInitial() {
        boiler("READY without WAITING").quiet(500, 0).say(Boiler.READY).cycle(BoilerDesk.STOPPED);
        boiler("READY below N1").quiet(399, 0).say(Boiler.WAITING).say(Boiler.READY).cycle(BoilerDesk.STOPPED)
                .commands(0, 0);
        boiler("READY above N2").quiet(601, 0).say(Boiler.WAITING).say(Boiler.READY).cycle(BoilerDesk.STOPPED)
                .told(1, 0);
        boiler("steam with WAITING").quiet(500, 1).say(Boiler.WAITING).cycle(BoilerDesk.STOPPED).told(4, 0);
        boiler("steam behind WAITING").quiet(500, 0).say(Boiler.WAITING).cycle(BoilerDesk.INITIAL)
                .quiet(500, 1).cycle(BoilerDesk.STOPPED).steamFrom(1, 1);
        boiler("steam with READY").quiet(500, 1).say(Boiler.WAITING).say(Boiler.READY).cycle(BoilerDesk.STOPPED);
        boiler("level failed").quiet(1001, 0).cycle(BoilerDesk.STOPPED);
        boiler("steam failed").quiet(500, 51).cycle(BoilerDesk.STOPPED);
    }

    /** The rates are so large that every level may come next. */
    private static void stopsAtTheLimits() {
        int[] levels = {0, 100, 101, 899, 900, 1000};
        int[] modes = {4, 4, 1, 1, 4, 4};
        for (int k = 0; k < levels.length; k++) {
            Boiler boiler = boiler("level " + levels[k]);
            boiler.desk.begin(1000, 100, 400, 600, 900, 1000, 1000, 1000, 1000);
            boiler.startedPumping(300, 500).readings(levels[k], 0, 15, 15).cycle(modes[k]).failed(0).commands(0,
                    levels[k] == 899 ? 15 : 0);
        }
    }

    private static void stopsAtTheLimitsWithAnEstimate() {
        downTo(399, BoilerDesk.RESCUE);
        downTo(400, BoilerDesk.STOPPED);
        upTo(99, BoilerDesk.RESCUE);
        upTo(100, BoilerDesk.STOPPED);
    }

    private static void downTo(int steamRise, int mode) {
        Boiler boiler = boiler("500 less " + steamRise);
        boiler.desk.begin(1000, 100, 400, 600, 900, 1000, steamRise, 0, 1);
        boiler.started(500).quiet(-1, 0).cycle(mode).levelFrom(500 - steamRise, 500);
    }

    private static void upTo(int pumpRate, int mode) {
        Boiler boiler = boiler("500 and 4 times " + pumpRate);
        boiler.desk.begin(1000, 100, 400, 600, 900, 0, 0, 0, pumpRate);
        boiler.startedPumping(300, 500).readings(-1, 0, 15, 15).cycle(mode).levelFrom(500, 500 + 4 * pumpRate);
    }

    private static void rescues() {
        boiler("level").started(500).quiet(-1, 0).cycle(BoilerDesk.RESCUE);
        boiler("level and steam").started(500).quiet(-1, -1).cycle(BoilerDesk.STOPPED).detected(3);
        for (int pump = 0; pump < 4; pump++) {
            boiler("level and pump " + pump).started(500).readings(-1, 0, 1 << pump, 0).cycle(BoilerDesk.RESCUE);
            boiler("level and teller " + pump).started(500).readings(-1, 0, 0, 1 << pump).cycle(BoilerDesk.STOPPED);
        }
        boiler("steam behind level").started(500).quiet(-1, 0).cycle(BoilerDesk.RESCUE)
                .quiet(-1, 50).cycle(BoilerDesk.STOPPED);
        boiler("level behind steam").started(500).quiet(500, 50).cycle(BoilerDesk.DEGRADED)
                .quiet(-1, 0).cycle(BoilerDesk.STOPPED);
    }

    private static void goesThroughTheModes() {
        Boiler boiler = boiler("modes").started(500);
        boiler.quiet(500, 50).cycle(BoilerDesk.DEGRADED);
        boiler.quiet(500, 0).repair(1).cycle(BoilerDesk.NORMAL);
        boiler.readings(500, 0, 0, 4).cycle(BoilerDesk.DEGRADED);
        boiler.quiet(-1, 0).repair(8).cycle(BoilerDesk.RESCUE);
        boiler.readings(500, 0, 2, 0).repair(0).cycle(BoilerDesk.DEGRADED);
        // READY and WAITING are nothing in these modes.
        boiler.quiet(500, 0).repair(3).say(Boiler.READY).say(Boiler.WAITING).cycle(BoilerDesk.NORMAL);
        boiler.quiet(500, 3).say(Boiler.READY).cycle(BoilerDesk.NORMAL);
        boiler.quiet(-1, 3).say(Boiler.READY).cycle(BoilerDesk.RESCUE);
        boiler.quiet(490, 3).repair(0).cycle(BoilerDesk.NORMAL);
        boiler.cycle(BoilerDesk.STOPPED).quiet(490, 3).cycle(BoilerDesk.STOPPED);
    }
}
