/** Promise 8, step (b): repairs and acknowledgements. */
public final class Promise08bRepairTest {
    private static final Checks CHECKS = new Checks();

    public static void main(String[] args) {
        takesARepair();
        takesAnAcknowledgement();
        stopsAtWrongOnes();
        overlooksWrongOnesInInitial();
        keepsTheOrder();
        detectsAgainInTheSameCycle();
        CHECKS.end();
    }

    private static Boiler boiler(String name) {
        return new Boiler(CHECKS, name);
    }

    /** Pumps 0, 2 and 3 have failed, pump 1 is good; all are shut. */
    private static Boiler threeFailed(String name) {
        return boiler(name).started(500).readings(500, 0, 0b1101, 0).cycle(BoilerDesk.DEGRADED).failed(0b110100);
    }

    private static void takesARepair() {
        threeFailed("one repair").quiet(500, 0).repair(4).cycle(BoilerDesk.DEGRADED)
                .repaired(1 << 4).failed(0b100100).detected(0);
        threeFailed("all repairs").quiet(500, 0).repair(5).repair(4).repair(2).cycle(BoilerDesk.NORMAL)
                .repaired(0b110100).failed(0);
        threeFailed("repair of an acknowledged one").quiet(500, 0).acknowledge(4).acknowledge(2)
                .cycle(BoilerDesk.DEGRADED).acknowledged(0b010100)
                .quiet(500, 0).repair(4).cycle(BoilerDesk.DEGRADED).failed(0b100100).acknowledged(0b000100);
    }

    private static void takesAnAcknowledgement() {
        threeFailed("acknowledgement").quiet(500, 0).acknowledge(5).cycle(BoilerDesk.DEGRADED)
                .acknowledged(1 << 5).failed(0b110100).repaired(0)
                .quiet(500, 0).cycle(BoilerDesk.DEGRADED).acknowledged(1 << 5);
        threeFailed("failing anew is not acknowledged").quiet(500, 0).acknowledge(5).cycle(BoilerDesk.DEGRADED)
                .quiet(500, 0).repair(5).cycle(BoilerDesk.DEGRADED)
                .readings(500, 0, 0b1000, 0).cycle(BoilerDesk.DEGRADED).failed(0b110100).acknowledged(0)
                .quiet(500, 0).acknowledge(5).cycle(BoilerDesk.DEGRADED).acknowledged(1 << 5);
    }

    private static void stopsAtWrongOnes() {
        for (int unit = 0; unit < 10; unit++) {
            boiler("repair of good " + unit).started(500).quiet(500, 3).repair(unit).cycle(BoilerDesk.STOPPED)
                    .toldNothing().steamFrom(0, 0);
            boiler("acknowledgement of good " + unit).started(500).quiet(500, 3).acknowledge(unit)
                    .cycle(BoilerDesk.STOPPED).toldNothing().steamFrom(0, 0).acknowledged(0);
        }
        threeFailed("second acknowledgement").quiet(500, 0).acknowledge(2).cycle(BoilerDesk.DEGRADED)
                .quiet(500, 0).acknowledge(2).cycle(BoilerDesk.STOPPED).acknowledged(1 << 2);
        boiler("acknowledgement ahead of the failure").started(500).quiet(-1, 0).acknowledge(0)
                .cycle(BoilerDesk.STOPPED).detected(0).failed(0);
        boiler("repair of good in RESCUE").started(500).quiet(-1, 0).cycle(BoilerDesk.RESCUE)
                .quiet(500, 0).repair(1).cycle(BoilerDesk.STOPPED).failed(Boiler.LEVEL);
    }

    private static void overlooksWrongOnesInInitial() {
        Boiler boiler = boiler("INITIAL");
        for (int unit = 0; unit < 10; unit++) {
            boiler.repair(unit).acknowledge(unit);
        }
        boiler.readings(500, 0, 0b0001, 0).cycle(BoilerDesk.INITIAL).repaired(0).acknowledged(0).failed(1 << 2);
        boiler.quiet(500, 0).acknowledge(2).acknowledge(3).cycle(BoilerDesk.INITIAL).acknowledged(1 << 2);
        boiler.quiet(500, 0).acknowledge(2).cycle(BoilerDesk.INITIAL).acknowledged(1 << 2);
        boiler.quiet(500, 0).acknowledge(2).repair(2).repair(3).cycle(BoilerDesk.INITIAL)
                .repaired(1 << 2).failed(0).acknowledged(0);
        boiler.quiet(500, 0).say(Boiler.WAITING).say(Boiler.READY).repair(2).acknowledge(2).cycle(BoilerDesk.NORMAL);
        boiler.quiet(500, 0).repair(2).cycle(BoilerDesk.STOPPED);
    }

    private static void keepsTheOrder() {
        threeFailed("a wrong repair ends the repairs").quiet(500, 0).repair(4).repair(3).repair(2)
                .cycle(BoilerDesk.STOPPED).repaired(1 << 2).failed(0b110000);
        threeFailed("a wrong acknowledgement ends them").quiet(500, 0).acknowledge(4).acknowledge(3).acknowledge(2)
                .cycle(BoilerDesk.STOPPED).acknowledged(1 << 2).failed(0b110100);
        threeFailed("a wrong repair ends the acknowledgements").quiet(500, 0).acknowledge(2).repair(9)
                .cycle(BoilerDesk.STOPPED).acknowledged(0).failed(0b110100);
        threeFailed("repairs come first").quiet(500, 0).acknowledge(3).repair(5)
                .cycle(BoilerDesk.STOPPED).repaired(1 << 5).failed(0b010100);
        threeFailed("just repaired").quiet(500, 0).acknowledge(2).acknowledge(4).repair(4)
                .cycle(BoilerDesk.STOPPED).repaired(1 << 4).acknowledged(1 << 2).failed(0b100100);
    }

    private static void detectsAgainInTheSameCycle() {
        threeFailed("repaired and detected").quiet(500, 0).acknowledge(2).cycle(BoilerDesk.DEGRADED)
                .readings(500, 0, 0b0001, 0).repair(2).cycle(BoilerDesk.DEGRADED)
                .repaired(1 << 2).detected(1 << 2).failed(0b110100).acknowledged(0);
    }
}
