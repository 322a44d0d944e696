/** Promise 8, step (d): which units are found to have failed. */
public final class Promise08dDetectTest {
    private static final Checks CHECKS = new Checks();

    public static void main(String[] args) {
        detectsTheLevel();
        detectsSteam();
        detectsPumps();
        detectsTellers();
        sparesTellersOfFailedPumps();
        detectsOnlyOnce();
        detectsInInitial();
        CHECKS.end();
    }

    private static Boiler boiler(String name) {
        return new Boiler(CHECKS, name);
    }

    private static void detectsTheLevel() {
        boiler("the least level").started(500).quiet(495, 0).cycle(BoilerDesk.NORMAL).detected(0);
        boiler("the greatest level").started(500).quiet(500, 0).cycle(BoilerDesk.NORMAL).detected(0);
        boiler("below the least level").started(500).quiet(494, 0).cycle(BoilerDesk.RESCUE).detected(Boiler.LEVEL);
        boiler("above the greatest level").started(500).quiet(501, 0).cycle(BoilerDesk.RESCUE).detected(Boiler.LEVEL);
    }

    private static void detectsSteam() {
        Boiler boiler = boiler("steam").started(500).quiet(500, 5).cycle(BoilerDesk.NORMAL).detected(0);
        boiler.quiet(490, 10).cycle(BoilerDesk.NORMAL).detected(0);
        boiler.quiet(480, 5).cycle(BoilerDesk.NORMAL).detected(0);
        boiler.quiet(475, 11).cycle(BoilerDesk.DEGRADED).detected(Boiler.STEAM);
        boiler("steam and level at once").started(500).quiet(0, 6).cycle(BoilerDesk.STOPPED)
                .detected(Boiler.LEVEL | Boiler.STEAM).failed(Boiler.LEVEL | Boiler.STEAM);
    }

    private static void detectsPumps() {
        for (int pump = 0; pump < 4; pump++) {
            int bit = 1 << pump;
            boiler("shut, says on " + pump).started(500).readings(500, 0, bit, 0).cycle(BoilerDesk.DEGRADED)
                    .detected(Boiler.pumpUnit(pump)).pumpsOn(0);
            boiler("on, says shut " + pump).startedPumping(300, 400).readings(400, 0, 15 & ~bit, 15)
                    .cycle(BoilerDesk.DEGRADED).detected(Boiler.pumpUnit(pump)).pumpsOn(15);
        }
    }

    private static void detectsTellers() {
        for (int pump = 0; pump < 4; pump++) {
            int bit = 1 << pump;
            boiler("shut, said to give " + pump).started(500).readings(500, 0, 0, bit).cycle(BoilerDesk.DEGRADED)
                    .detected(Boiler.teller(pump));
            boiler("on twice, said not to give " + pump).startedPumping(300, 400).readings(400, 0, 15, 15 & ~bit)
                    .cycle(BoilerDesk.DEGRADED).detected(Boiler.teller(pump));
        }
        Boiler turnedOn = boiler("on just now").started(400).quiet(399, 0).cycle(BoilerDesk.NORMAL).commands(15, 0);
        turnedOn.readings(399, 0, 15, 0b0101).cycle(BoilerDesk.NORMAL).detected(0);
        turnedOn.readings(440, 0, 15, 0b0101).cycle(BoilerDesk.DEGRADED).detected(Boiler.teller(1) | Boiler.teller(3));
        Boiler shutJustNow = boiler("shut just now").startedPumping(300, 600);
        shutJustNow.readings(601, 0, 15, 15).cycle(BoilerDesk.NORMAL).commands(0, 15);
        shutJustNow.readings(601, 0, 0, 0b0010).cycle(BoilerDesk.DEGRADED).detected(Boiler.teller(1));
    }

    private static void sparesTellersOfFailedPumps() {
        Boiler boiler = boiler("both wrong at once").started(500);
        boiler.readings(500, 0, 0b0001, 0b0001).cycle(BoilerDesk.DEGRADED).detected(Boiler.pumpUnit(0));
        boiler.readings(500, 0, 0, 0b0001).cycle(BoilerDesk.DEGRADED).detected(0);
        boiler.readings(500, 0, 0, 0b0011).cycle(BoilerDesk.DEGRADED).detected(Boiler.teller(1));
        // With the pump good again its teller is looked at in the same cycle.
        boiler.readings(500, 0, 0, 0b0001).repair(2).cycle(BoilerDesk.DEGRADED).repaired(Boiler.pumpUnit(0))
                .detected(Boiler.teller(0)).failed(Boiler.teller(0) | Boiler.teller(1));
    }

    private static void detectsOnlyOnce() {
        Boiler boiler = boiler("failed already").started(500).quiet(-1, 0).cycle(BoilerDesk.RESCUE);
        boiler.quiet(-1, 0).cycle(BoilerDesk.RESCUE).detected(0).failed(Boiler.LEVEL);
        boiler.readings(-1, 0, 0b0100, 0).cycle(BoilerDesk.RESCUE).detected(Boiler.pumpUnit(2));
        boiler.readings(-1, 0, 0b0100, 0).cycle(BoilerDesk.RESCUE).detected(0)
                .failed(Boiler.LEVEL | Boiler.pumpUnit(2));
        // A reading as expected does not make a unit good again.
        boiler.quiet(490, 0).cycle(BoilerDesk.RESCUE).failed(Boiler.LEVEL | Boiler.pumpUnit(2));
    }

    private static void detectsInInitial() {
        boiler("level below 0").quiet(-1, 0).cycle(BoilerDesk.STOPPED).detected(Boiler.LEVEL);
        boiler("level above C").quiet(1001, 0).cycle(BoilerDesk.STOPPED).detected(Boiler.LEVEL);
        boiler("steam below 0").quiet(0, -1).cycle(BoilerDesk.STOPPED).detected(Boiler.STEAM);
        boiler("steam above W").quiet(0, 51).cycle(BoilerDesk.STOPPED).detected(Boiler.STEAM);
        boiler("pump and teller").readings(500, 0, 0b0001, 0b0010).cycle(BoilerDesk.INITIAL)
                .detected(Boiler.pumpUnit(0) | Boiler.teller(1));
        Boiler pumping = boiler("teller of a pump on").quiet(300, 0).say(Boiler.WAITING).cycle(BoilerDesk.INITIAL);
        pumping.readings(300, 0, 15, 0).cycle(BoilerDesk.INITIAL).detected(0);
        pumping.readings(300, 0, 15, 0b0111).cycle(BoilerDesk.INITIAL).detected(Boiler.teller(3));
    }
}
