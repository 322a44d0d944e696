/** Promise 10: all that can be asked of the state. */
public final class Promise10StateTest {
    private static final Checks CHECKS = new Checks();

    public static void main(String[] args) {
        refusesOtherNumbers();
        answersAllOfIt();
        countsCycles();
        CHECKS.end();
    }

    private static void refusesOtherNumbers() {
        Boiler boiler = new Boiler(CHECKS, "wrong numbers");
        for (int wrong : new int[] {-1, 10, Integer.MIN_VALUE, Integer.MAX_VALUE}) {
            CHECKS.illegalArgument("state " + wrong, () -> boiler.desk.state(wrong));
        }
        boiler.states(0, 1000, 0, 50, 0, 0, 0, 0, 0, 0);
    }

    private static void answersAllOfIt() {
        Boiler boiler = new Boiler(CHECKS, "all");
        boiler.quiet(700, 0).say(Boiler.WAITING).cycle(BoilerDesk.INITIAL);
        boiler.states(700, 700, 0, 0, 0, 0, 0, 1, BoilerDesk.INITIAL, 1);
        boiler.readings(390, 0, 0b0100, 0).cycle(BoilerDesk.INITIAL);
        boiler.states(390, 390, 0, 0, 1 << 4, 0, 0b1011, 0, BoilerDesk.INITIAL, 2);
        boiler.readings(500, 0, 0b1011, 0).say(Boiler.READY).acknowledge(4).cycle(BoilerDesk.DEGRADED);
        // INITIAL ended at a normal level: the pumps stay on.
        boiler.states(500, 500, 0, 0, 1 << 4, 1 << 4, 0b1011, 0, BoilerDesk.DEGRADED, 3);
    }

    private static void countsCycles() {
        Boiler boiler = new Boiler(CHECKS, "cycles");
        for (int cycle = 1; cycle <= 5; cycle++) {
            boiler.quiet(500, 0).cycle(BoilerDesk.INITIAL).state(9, cycle);
        }
        for (int cycle = 6; cycle <= 10; cycle++) {
            boiler.cycle(BoilerDesk.STOPPED).state(9, cycle).levelFrom(500, 500);
        }
    }
}
