/** Promise 8, the count of cycles, what STOPPED means, and step (a): STOP and readings that are missing. */
public final class Promise08aStopTest {
    private static final Checks CHECKS = new Checks();
    private static final int MOST_CYCLES = 1000000;

    public static void main(String[] args) {
        stopsAtTheThirdStop();
        countsStopsInARowOnly();
        stopsWithoutAReading();
        endsTheCycleAtOnce();
        staysStopped();
        refusesTooManyCycles();
        refusesTooManyLiveCycles();
        CHECKS.end();
    }

    private static Boiler boiler(String name) {
        return new Boiler(CHECKS, name);
    }

    private static void stopsAtTheThirdStop() {
        boiler("three STOPs in INITIAL").quiet(500, 0).say(Boiler.STOP).cycle(BoilerDesk.INITIAL)
                .quiet(500, 0).say(Boiler.STOP).cycle(BoilerDesk.INITIAL)
                .quiet(500, 0).say(Boiler.STOP).cycle(BoilerDesk.STOPPED);
        boiler("three STOPs, mode changing").quiet(500, 0).say(Boiler.STOP).cycle(BoilerDesk.INITIAL)
                .quiet(500, 0).say(Boiler.STOP).say(Boiler.WAITING).say(Boiler.READY).cycle(BoilerDesk.NORMAL)
                .quiet(500, 0).say(Boiler.STOP).cycle(BoilerDesk.STOPPED);
    }

    private static void countsStopsInARowOnly() {
        Boiler broken = boiler("STOPs with gaps").started(500);
        for (int round = 0; round < 3; round++) {
            broken.quiet(500, 0).say(Boiler.STOP).cycle(BoilerDesk.NORMAL);
            broken.quiet(500, 0).say(Boiler.STOP).cycle(BoilerDesk.NORMAL);
            broken.quiet(500, 0).cycle(BoilerDesk.NORMAL);
        }
    }

    /** The ten readings one by one; pump() brings two of them, so six calls. */
    private static void stopsWithoutAReading() {
        for (int missing = 0; missing < 6; missing++) {
            Boiler initial = boiler("missing in INITIAL " + missing);
            sendAllBut(initial, missing);
            initial.cycle(BoilerDesk.STOPPED).levelFrom(0, 1000).state(9, 1);
            Boiler normal = boiler("missing in NORMAL " + missing).started(500);
            sendAllBut(normal, missing);
            normal.cycle(BoilerDesk.STOPPED).levelFrom(500, 500).state(9, 2);
        }
    }

    private static void sendAllBut(Boiler boiler, int missing) {
        if (missing != 0) {
            boiler.desk.level(480);
        }
        if (missing != 1) {
            boiler.desk.steam(3);
        }
        for (int pump = 0; pump < 4; pump++) {
            if (missing != 2 + pump) {
                boiler.desk.pump(pump, false, false);
            }
        }
    }

    private static void endsTheCycleAtOnce() {
        Boiler stopped = Promise07UnitTest.withFailed(CHECKS, "third STOP", 3);
        stopped.quiet(500, 1).say(Boiler.STOP).cycle(BoilerDesk.DEGRADED);
        stopped.quiet(500, 2).say(Boiler.STOP).cycle(BoilerDesk.DEGRADED);
        stopped.readings(-1, -1, Boiler.ALL, Boiler.ALL).say(Boiler.STOP).repair(3).cycle(BoilerDesk.STOPPED);
        stopped.toldNothing().states(500, 500, 2, 2, 1 << 3, 0, 0, 0, BoilerDesk.STOPPED, 5);
    }

    private static void staysStopped() {
        Boiler boiler = boiler("STOPPED while pumping").startedPumping(300, 400);
        boiler.readings(400, 2, Boiler.ALL, 0b0111).cycle(BoilerDesk.DEGRADED).failed(Boiler.teller(3));
        boiler.readings(450, 3, Boiler.ALL, Boiler.ALL).acknowledge(9).cycle(BoilerDesk.DEGRADED);
        boiler.readings(500, 3, Boiler.ALL, Boiler.ALL).acknowledge(9).cycle(BoilerDesk.STOPPED);
        for (int cycles = 6; cycles <= 9; cycles++) {
            boiler.readings(700, 4, Boiler.ALL, Boiler.ALL).repair(9).cycle(BoilerDesk.STOPPED).toldNothing();
            boiler.states(450, 450, 3, 3, Boiler.teller(3), Boiler.teller(3), 15, 0, BoilerDesk.STOPPED, cycles);
        }
    }

    private static void refusesTooManyCycles() {
        Boiler boiler = boiler("a million cycles");
        for (int cycle = 0; cycle < MOST_CYCLES - 1; cycle++) {
            boiler.desk.cycle();
        }
        boiler.state(9, MOST_CYCLES - 1).cycle(BoilerDesk.STOPPED).state(9, MOST_CYCLES);
        CHECKS.refused("cycle() behind a million", IllegalStateException.class, boiler.desk::cycle);
        boiler.state(9, MOST_CYCLES).state(8, BoilerDesk.STOPPED);
        boiler.desk.begin(1000, 100, 400, 600, 900, 50, 5, 5, 15);
        boiler.state(9, 0).started(500).state(9, 1);
    }

    /** Cycles that are not STOPPED count likewise, and the call that throws changes nothing. */
    private static void refusesTooManyLiveCycles() {
        Boiler boiler = boiler("a million live cycles").started(500);
        for (int cycle = 1; cycle < MOST_CYCLES; cycle++) {
            boiler.quiet(500, 0).desk.cycle();
        }
        boiler.quiet(-1, 3);
        CHECKS.refused("cycle() behind a million", IllegalStateException.class, boiler.desk::cycle);
        boiler.toldNothing().states(500, 500, 0, 0, 0, 0, 0, 0, BoilerDesk.NORMAL, MOST_CYCLES);
    }
}
