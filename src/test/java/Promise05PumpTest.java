/** Promise 5: a pump says whether it is on, and what tells of it whether it gives; other pumps are refused. */
public final class Promise05PumpTest {
    private static final Checks CHECKS = new Checks();

    public static void main(String[] args) {
        refusesOtherPumps();
        takesEachPumpForItself();
        takesTheLatest();
        needsAllFourInEachCycle();
        CHECKS.end();
    }

    private static void refusesOtherPumps() {
        Boiler boiler = new Boiler(CHECKS, "wrong pumps").quiet(500, 0);
        for (int wrong : new int[] {-1, 4, 32, Integer.MIN_VALUE, Integer.MAX_VALUE}) {
            CHECKS.illegalArgument("pump " + wrong, () -> boiler.desk.pump(wrong, true, true));
        }
        boiler.cycle(BoilerDesk.INITIAL).failed(0);
    }

    private static void takesEachPumpForItself() {
        for (int pump = 0; pump < 4; pump++) {
            new Boiler(CHECKS, "on " + pump).readings(500, 0, 1 << pump, 0).cycle(BoilerDesk.INITIAL)
                    .detected(Boiler.pumpUnit(pump));
            new Boiler(CHECKS, "gives " + pump).readings(500, 0, 0, 1 << pump).cycle(BoilerDesk.INITIAL)
                    .detected(Boiler.teller(pump));
        }
    }

    private static void takesTheLatest() {
        new Boiler(CHECKS, "the latest is right").readings(500, 0, Boiler.ALL, Boiler.ALL).quiet(500, 0)
                .cycle(BoilerDesk.INITIAL).failed(0);
        new Boiler(CHECKS, "the latest is wrong").quiet(500, 0).readings(500, 0, Boiler.NONE, Boiler.ALL)
                .cycle(BoilerDesk.INITIAL).failed(0b1111000000);
    }

    private static void needsAllFourInEachCycle() {
        for (int missing = 0; missing < 4; missing++) {
            Boiler boiler = new Boiler(CHECKS, "pump missing " + missing).quiet(500, 0).cycle(BoilerDesk.INITIAL);
            boiler.desk.level(500);
            boiler.desk.steam(0);
            for (int pump = 0; pump < 4; pump++) {
                if (pump != missing) {
                    boiler.desk.pump(pump, false, false);
                    boiler.desk.pump(pump, false, false);
                }
            }
            boiler.cycle(BoilerDesk.STOPPED);
        }
    }
}
