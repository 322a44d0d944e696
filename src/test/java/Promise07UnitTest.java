/** Promise 7: repairs and acknowledgements are received of each unit for itself; other units are refused. */
public final class Promise07UnitTest {
    private static final Checks CHECKS = new Checks();

    public static void main(String[] args) {
        refusesOtherUnits();
        takesEachUnit();
        keepsBothKindsApart();
        forgetsBehindTheCycle();
        CHECKS.end();
    }

    private static void refusesOtherUnits() {
        Boiler boiler = new Boiler(CHECKS, "wrong units").started(500).quiet(500, 0);
        for (int wrong : new int[] {-1, 10, 32, Integer.MIN_VALUE, Integer.MAX_VALUE}) {
            CHECKS.illegalArgument("repair of " + wrong, () -> boiler.repair(wrong));
            CHECKS.illegalArgument("acknowledgement of " + wrong, () -> boiler.acknowledge(wrong));
        }
        boiler.cycle(BoilerDesk.NORMAL);
    }

    /** A boiler in which just this unit has failed. */
    static Boiler withFailed(Checks checks, String name, int unit) {
        Boiler boiler = new Boiler(checks, name + " of " + unit).started(500);
        if (unit == 0) {
            return boiler.quiet(-1, 0).cycle(BoilerDesk.RESCUE).failed(1);
        }
        if (unit == 1) {
            return boiler.quiet(500, -1).cycle(BoilerDesk.DEGRADED).failed(2);
        }
        int on = unit < 6 ? 1 << unit - 2 : 0;
        int gives = unit < 6 ? 0 : 1 << unit - 6;
        return boiler.readings(500, 0, on, gives).cycle(BoilerDesk.DEGRADED).failed(1 << unit);
    }

    private static void takesEachUnit() {
        for (int unit = 0; unit < 10; unit++) {
            int stays = unit == 0 ? BoilerDesk.RESCUE : BoilerDesk.DEGRADED;
            int wrongLevel = unit == 0 ? -1 : 500;
            int wrongSteam = unit == 1 ? -1 : 0;
            withFailed(CHECKS, "repair", unit).quiet(500, 0).repair(unit).repair(unit).cycle(BoilerDesk.NORMAL)
                    .repaired(1 << unit).failed(0).acknowledged(0);
            withFailed(CHECKS, "acknowledgement", unit).quiet(wrongLevel, wrongSteam)
                    .acknowledge(unit).acknowledge(unit).cycle(stays)
                    .repaired(0).failed(1 << unit).acknowledged(1 << unit);
        }
    }

    /** Neither replaces the other: the repair is done first, so that the acknowledgement is a wrong one. */
    private static void keepsBothKindsApart() {
        withFailed(CHECKS, "repair, acknowledgement", 4).quiet(500, 0).repair(4).acknowledge(4)
                .cycle(BoilerDesk.STOPPED).repaired(1 << 4).failed(0);
        withFailed(CHECKS, "acknowledgement, repair", 4).quiet(500, 0).acknowledge(4).repair(4)
                .cycle(BoilerDesk.STOPPED).repaired(1 << 4).failed(0);
    }

    private static void forgetsBehindTheCycle() {
        withFailed(CHECKS, "repair once", 4).quiet(500, 0).repair(4).cycle(BoilerDesk.NORMAL)
                .quiet(500, 0).cycle(BoilerDesk.NORMAL).repaired(0);
        withFailed(CHECKS, "acknowledgement once", 4).quiet(500, 0).acknowledge(4).cycle(BoilerDesk.DEGRADED)
                .quiet(500, 0).cycle(BoilerDesk.DEGRADED).acknowledged(1 << 4);
    }
}
