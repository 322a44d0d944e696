/** Promise 8, step (c): what is expected, seen as the estimate of a unit that has failed. */
public final class Promise08cExpectTest {
    private static final Checks CHECKS = new Checks();

    public static void main(String[] args) {
        expectsSteam();
        expectsTheLevelWithPumpsShut();
        expectsPumpsThatSurelyGive();
        doubtsPumpsThatWereTurnedOnJustNow();
        doubtsFailedPumps();
        doubtsPumpsWhoseTellerFailed();
        trustsARepairOneCycleLater();
        keepsToTheCapacity();
        expectsAllInInitial();
        CHECKS.end();
    }

    private static Boiler boiler(String name) {
        return new Boiler(CHECKS, name);
    }

    private static void expectsSteam() {
        Boiler boiler = boiler("steam");
        boiler.desk.begin(1000, 100, 400, 600, 900, 20, 7, 3, 15);
        boiler.started(500).quiet(500, 7).cycle(BoilerDesk.NORMAL).steamFrom(7, 7);
        boiler.quiet(490, -1).cycle(BoilerDesk.DEGRADED).steamFrom(4, 14);
        boiler.quiet(480, 9).cycle(BoilerDesk.DEGRADED).steamFrom(1, 20);
        boiler.quiet(470, 9).cycle(BoilerDesk.DEGRADED).steamFrom(0, 20);
        // The level's bounds come from the steam's: 470 less 20 to 470 less 0, and so on.
        boiler.quiet(450, 9).cycle(BoilerDesk.DEGRADED).failed(Boiler.STEAM);
        boiler.quiet(451, 9).cycle(BoilerDesk.STOPPED).failed(Boiler.STEAM | Boiler.LEVEL).levelFrom(430, 450);
    }

    private static void expectsTheLevelWithPumpsShut() {
        Boiler boiler = boiler("level").started(500);
        boiler.quiet(-1, 0).cycle(BoilerDesk.RESCUE).levelFrom(495, 500);
        boiler.quiet(-1, 5).cycle(BoilerDesk.RESCUE).levelFrom(490, 500);
        boiler.quiet(-1, 10).cycle(BoilerDesk.RESCUE).levelFrom(480, 500);
        // Steam was 10 and is expected from 5 to 15.
        boiler.quiet(-1, 7).cycle(BoilerDesk.RESCUE).levelFrom(465, 495);
        boiler.quiet(-1, 7).cycle(BoilerDesk.RESCUE).levelFrom(453, 493);
    }

    private static void expectsPumpsThatSurelyGive() {
        Boiler boiler = boiler("pumps giving").startedPumping(300, 400);
        boiler.readings(400, 0, Boiler.ALL, Boiler.ALL).cycle(BoilerDesk.NORMAL).failed(0);
        boiler.readings(-1, 0, Boiler.ALL, Boiler.ALL).cycle(BoilerDesk.RESCUE).levelFrom(455, 460);
        boiler.readings(-1, 0, Boiler.ALL, Boiler.ALL).cycle(BoilerDesk.RESCUE).levelFrom(510, 520);
        boiler.readings(-1, 0, Boiler.ALL, Boiler.ALL).cycle(BoilerDesk.RESCUE).levelFrom(565, 580);
        boiler.readings(-1, 0, Boiler.ALL, Boiler.ALL).cycle(BoilerDesk.RESCUE).levelFrom(620, 640).commands(0, 15);
        boiler.quiet(-1, 0).cycle(BoilerDesk.RESCUE).levelFrom(615, 640);
    }

    private static void doubtsPumpsThatWereTurnedOnJustNow() {
        Boiler boiler = boiler("pumps turned on").started(400).quiet(399, 5).cycle(BoilerDesk.NORMAL).commands(15, 0);
        boiler.readings(-1, 5, Boiler.ALL, Boiler.NONE).cycle(BoilerDesk.RESCUE).levelFrom(389, 459);
        // On for two cycles, but in the cycle before they did not yet say that they give.
        boiler.readings(-1, 5, Boiler.ALL, Boiler.ALL).cycle(BoilerDesk.RESCUE).levelFrom(379, 519);
        boiler.readings(-1, 5, Boiler.ALL, Boiler.ALL).cycle(BoilerDesk.RESCUE).levelFrom(429, 579);
    }

    private static void doubtsFailedPumps() {
        Boiler shut = boiler("failed and shut").started(500).readings(500, 0, 0b0011, 0).cycle(BoilerDesk.DEGRADED);
        shut.quiet(-1, 0).cycle(BoilerDesk.RESCUE).levelFrom(495, 530);
        Boiler on = boiler("failed and on").startedPumping(300, 400);
        on.readings(400, 0, 0b1110, Boiler.ALL).cycle(BoilerDesk.DEGRADED).failed(Boiler.pumpUnit(0)).pumpsOn(15);
        on.readings(-1, 0, Boiler.ALL, Boiler.ALL).cycle(BoilerDesk.RESCUE).levelFrom(440, 460);
    }

    private static void doubtsPumpsWhoseTellerFailed() {
        Boiler shut = boiler("shut, said to give").started(500);
        shut.readings(500, 0, 0, 0b0001).cycle(BoilerDesk.DEGRADED).failed(Boiler.teller(0));
        shut.quiet(516, 0).cycle(BoilerDesk.STOPPED).failed(Boiler.teller(0) | Boiler.LEVEL).levelFrom(495, 515);
        Boiler on = boiler("on, said not to give").startedPumping(300, 400);
        on.readings(400, 0, Boiler.ALL, 0b0111).cycle(BoilerDesk.DEGRADED).failed(Boiler.teller(3));
        on.readings(-1, 0, Boiler.ALL, Boiler.ALL).cycle(BoilerDesk.STOPPED).levelFrom(440, 460);
    }

    private static void trustsARepairOneCycleLater() {
        Boiler pump = boiler("pump repaired").started(500).readings(500, 0, 0b0001, 0).cycle(BoilerDesk.DEGRADED);
        pump.quiet(-1, 0).repair(2).cycle(BoilerDesk.RESCUE).failed(Boiler.LEVEL).levelFrom(495, 515);
        pump.quiet(-1, 0).cycle(BoilerDesk.RESCUE).levelFrom(490, 515);
        Boiler teller = boiler("teller repaired").started(500).readings(500, 0, 0, 0b0001).cycle(BoilerDesk.DEGRADED);
        teller.quiet(-1, 0).repair(6).cycle(BoilerDesk.RESCUE).failed(Boiler.LEVEL).levelFrom(495, 515);
        teller.quiet(-1, 0).cycle(BoilerDesk.RESCUE).levelFrom(490, 515);
        Boiler on = boiler("repaired while on").startedPumping(300, 400);
        on.readings(400, 0, 0b1110, Boiler.ALL).cycle(BoilerDesk.DEGRADED).failed(Boiler.pumpUnit(0)).pumpsOn(15);
        on.readings(-1, 0, Boiler.ALL, Boiler.ALL).repair(2).cycle(BoilerDesk.RESCUE).levelFrom(440, 460);
        on.readings(-1, 0, Boiler.ALL, Boiler.ALL).cycle(BoilerDesk.RESCUE).levelFrom(495, 520);
        // A pump that fails only now still was good at the end of the cycle before.
        boiler("pump failing now").started(500).readings(501, 0, 0b0001, 0).cycle(BoilerDesk.RESCUE)
                .failed(Boiler.LEVEL | Boiler.pumpUnit(0)).levelFrom(495, 500);
    }

    private static void keepsToTheCapacity() {
        Boiler low = withLargeRates("from 0 at least").started(500);
        low.quiet(-1, 0).cycle(BoilerDesk.STOPPED).levelFrom(0, 500).steamFrom(0, 0);
        Boiler high = withLargeRates("to C at most").startedPumping(300, 500);
        high.readings(-1, 0, Boiler.ALL, Boiler.ALL).cycle(BoilerDesk.STOPPED).levelFrom(0, 1000);
        Boiler full = withLargeRates("from C at most").startedPumping(300, 500);
        full.readings(590, 0, Boiler.ALL, Boiler.ALL).cycle(BoilerDesk.NORMAL);
        full.readings(999, 0, Boiler.ALL, Boiler.ALL).cycle(BoilerDesk.STOPPED).failed(1).levelFrom(1000, 1000);
        Boiler empty = withLargeRates("to 0 at least").started(500);
        empty.quiet(450, 800).cycle(BoilerDesk.NORMAL);
        empty.quiet(1, 800).cycle(BoilerDesk.STOPPED).failed(1).levelFrom(0, 0).steamFrom(800, 800);
    }

    private static Boiler withLargeRates(String name) {
        Boiler boiler = boiler(name);
        boiler.desk.begin(1000, 0, 400, 600, 1000, 1000, 1000, 0, 1000);
        return boiler;
    }

    private static void expectsAllInInitial() {
        boiler("INITIAL").quiet(1000, 0).cycle(BoilerDesk.INITIAL).quiet(0, 50).cycle(BoilerDesk.INITIAL)
                .quiet(1000, 0).cycle(BoilerDesk.INITIAL).failed(0).levelFrom(1000, 1000).steamFrom(0, 0);
    }
}
