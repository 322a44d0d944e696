/** Promise 8, step (e): what is estimated. */
public final class Promise08eEstimateTest {
    private static final Checks CHECKS = new Checks();

    public static void main(String[] args) {
        new Boiler(CHECKS, "received").quiet(321, 12).cycle(BoilerDesk.INITIAL).levelFrom(321, 321).steamFrom(12, 12);
        new Boiler(CHECKS, "level failed in INITIAL").quiet(321, 12).cycle(BoilerDesk.INITIAL)
                .quiet(1001, 7).cycle(BoilerDesk.STOPPED).levelFrom(0, 1000).steamFrom(7, 7);
        new Boiler(CHECKS, "steam failed in INITIAL").quiet(321, 12).cycle(BoilerDesk.INITIAL)
                .quiet(300, 51).cycle(BoilerDesk.STOPPED).levelFrom(300, 300).steamFrom(0, 50);
        new Boiler(CHECKS, "level failed").started(500).quiet(501, 3).cycle(BoilerDesk.RESCUE)
                .levelFrom(495, 500).steamFrom(3, 3)
                .quiet(480, 3).cycle(BoilerDesk.RESCUE).levelFrom(487, 500);
        new Boiler(CHECKS, "steam failed").started(500).quiet(498, 6).cycle(BoilerDesk.DEGRADED)
                .levelFrom(498, 498).steamFrom(0, 5)
                .quiet(490, 3).cycle(BoilerDesk.DEGRADED).levelFrom(490, 490).steamFrom(0, 10);
        new Boiler(CHECKS, "level repaired").started(500).quiet(501, 3).cycle(BoilerDesk.RESCUE)
                .quiet(490, 3).repair(0).cycle(BoilerDesk.NORMAL).levelFrom(490, 490);
        new Boiler(CHECKS, "steam repaired").started(500).quiet(500, 6).cycle(BoilerDesk.DEGRADED)
                .quiet(490, 10).repair(1).cycle(BoilerDesk.NORMAL).steamFrom(10, 10);
        new Boiler(CHECKS, "STOPPED by the mode").started(500).quiet(501, 6).cycle(BoilerDesk.STOPPED)
                .levelFrom(495, 500).steamFrom(0, 5);
        CHECKS.end();
    }
}
