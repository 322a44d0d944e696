/** Promise 8, step (g): the commands to the pumps and the valve. */
public final class Promise08gCommandTest {
    private static final Checks CHECKS = new Checks();

    public static void main(String[] args) {
        commandsNothingBeforeWaiting();
        movesTheValveInInitial();
        movesThePumpsInInitial();
        endsInitial();
        movesThePumpsByTheLevel();
        movesThePumpsByTheEstimate();
        weighsBothSides();
        sparesFailedPumpsOnly();
        commandsNothingWhenStopped();
        CHECKS.end();
    }

    private static Boiler boiler(String name) {
        return new Boiler(CHECKS, name);
    }

    private static void commandsNothingBeforeWaiting() {
        for (int level : new int[] {0, 300, 500, 700, 1000}) {
            boiler("no WAITING at " + level).quiet(level, 0).cycle(BoilerDesk.INITIAL).toldNothing()
                    .pumpsOn(0).state(7, 0);
        }
    }

    private static void movesTheValveInInitial() {
        Boiler boiler = boiler("valve").quiet(600, 0).say(Boiler.WAITING).cycle(BoilerDesk.INITIAL)
                .told(1, 0).told(4, 1).state(7, 0);
        boiler.quiet(601, 0).cycle(BoilerDesk.INITIAL).told(1, 1).told(4, 0).state(7, 1);
        boiler.quiet(700, 0).cycle(BoilerDesk.INITIAL).told(1, 0).told(4, 0).state(7, 1);
        boiler.quiet(600, 0).cycle(BoilerDesk.INITIAL).told(1, 2).told(4, 1).state(7, 0);
        boiler.quiet(400, 0).cycle(BoilerDesk.INITIAL).told(1, 0).told(4, 1).state(7, 0);
        boiler.quiet(700, 0).cycle(BoilerDesk.INITIAL).told(1, 1);
        boiler.quiet(100, 0).cycle(BoilerDesk.INITIAL).told(1, 2).told(4, 0).commands(15, 0);
    }

    private static void movesThePumpsInInitial() {
        Boiler boiler = boiler("pumps").quiet(399, 0).say(Boiler.WAITING).cycle(BoilerDesk.INITIAL).commands(15, 0);
        boiler.readings(399, 0, 15, 0).cycle(BoilerDesk.INITIAL).commands(0, 0).pumpsOn(15);
        boiler.readings(400, 0, 15, 15).cycle(BoilerDesk.INITIAL).commands(0, 15).pumpsOn(0);
        boiler.quiet(400, 0).cycle(BoilerDesk.INITIAL).commands(0, 0);
        boiler.readings(399, 0, 0b0010, 0).cycle(BoilerDesk.INITIAL).commands(0b1101, 0).pumpsOn(0b1101);
        boiler.readings(399, 0, 0b1100, 0).cycle(BoilerDesk.INITIAL).failed(0b1100).commands(0, 0).pumpsOn(0b1101);
        boiler.readings(399, 0, 0b1101, 0b1101).repair(3).cycle(BoilerDesk.INITIAL).commands(0b0010, 0).pumpsOn(15);
        boiler.readings(601, 0, 15, 15).cycle(BoilerDesk.INITIAL).commands(0, 15).told(1, 1);
    }

    private static void endsInitial() {
        boiler("valve shut as INITIAL ends").quiet(700, 0).say(Boiler.WAITING).cycle(BoilerDesk.INITIAL)
                .quiet(600, 0).say(Boiler.READY).cycle(BoilerDesk.NORMAL).told(1, 2).told(4, 0).state(7, 0)
                .quiet(600, 0).cycle(BoilerDesk.NORMAL).told(1, 0);
        boiler("pumps as they were as INITIAL ends").quiet(300, 0).say(Boiler.WAITING).cycle(BoilerDesk.INITIAL)
                .readings(400, 0, 15, 0).say(Boiler.READY).cycle(BoilerDesk.NORMAL).commands(0, 0).pumpsOn(15);
    }

    private static void movesThePumpsByTheLevel() {
        Boiler boiler = boiler("level").started(401).quiet(400, 0).cycle(BoilerDesk.NORMAL).commands(0, 0);
        boiler.quiet(399, 0).cycle(BoilerDesk.NORMAL).commands(15, 0).pumpsOn(15);
        boiler.readings(399, 0, 15, 0).cycle(BoilerDesk.NORMAL).commands(0, 0).pumpsOn(15);
        boiler.readings(400, 0, 15, 15).cycle(BoilerDesk.NORMAL).commands(0, 0).pumpsOn(15);
        for (int level = 460; level <= 580; level += 60) {
            boiler.readings(level, 0, 15, 15).cycle(BoilerDesk.NORMAL).commands(0, 0).pumpsOn(15);
        }
        boiler.readings(640, 0, 15, 15).cycle(BoilerDesk.NORMAL).commands(0, 15).pumpsOn(0);
        boiler.quiet(640, 0).cycle(BoilerDesk.NORMAL).commands(0, 0).told(1, 0);
        Boiler edge = boiler("N2").startedPumping(300, 540);
        edge.readings(600, 0, 15, 15).cycle(BoilerDesk.NORMAL).commands(0, 0).pumpsOn(15);
        edge.readings(660, 0, 15, 15).cycle(BoilerDesk.NORMAL).commands(0, 15);
    }

    private static void movesThePumpsByTheEstimate() {
        boiler("may be below").started(404).quiet(-1, 0).cycle(BoilerDesk.RESCUE).levelFrom(399, 404).commands(15, 0);
        boiler("may just be N1").started(405).quiet(-1, 0).cycle(BoilerDesk.RESCUE).levelFrom(400, 405).commands(0, 0);
        boiler("may be above").startedPumping(300, 541).readings(-1, 0, 15, 15).cycle(BoilerDesk.RESCUE)
                .levelFrom(536, 601).commands(0, 15);
        boiler("may just be N2").startedPumping(300, 540).readings(-1, 0, 15, 15).cycle(BoilerDesk.RESCUE)
                .levelFrom(535, 600).commands(0, 0).pumpsOn(15);
    }

    /** Pumps 0 and 1 have failed while on; the level may lack mostSteam - 10 and exceed by 70. */
    private static Boiler torn(int mostSteam) {
        Boiler boiler = boiler("torn with " + mostSteam);
        boiler.desk.begin(1000, 100, 490, 510, 900, mostSteam, mostSteam, 0, 20);
        boiler.quiet(480, 0).say(Boiler.WAITING).cycle(BoilerDesk.INITIAL).pumpsOn(15);
        boiler.readings(500, 0, 0b1100, 0).say(Boiler.READY).cycle(BoilerDesk.DEGRADED).pumpsOn(15);
        return boiler.readings(-1, 0, 15, 15).cycle(BoilerDesk.RESCUE).levelFrom(500 - mostSteam, 580);
    }

    private static void weighsBothSides() {
        torn(81).commands(0, 0).pumpsOn(15);
        torn(80).commands(0, 15).pumpsOn(0);
        torn(11).commands(0, 15).pumpsOn(0);
        Boiler shut = boiler("torn with pumps shut");
        shut.desk.begin(1000, 100, 490, 510, 900, 31, 31, 0, 15);
        shut.readings(500, 0, 0b0011, 0).say(Boiler.WAITING).say(Boiler.READY).cycle(BoilerDesk.DEGRADED);
        shut.quiet(-1, 0).cycle(BoilerDesk.RESCUE).levelFrom(469, 530).commands(0b1100, 0).pumpsOn(0b1100);
        Boiler even = boiler("even with pumps shut");
        even.desk.begin(1000, 100, 490, 510, 900, 30, 30, 0, 15);
        even.readings(500, 0, 0b0011, 0).say(Boiler.WAITING).say(Boiler.READY).cycle(BoilerDesk.DEGRADED);
        even.quiet(-1, 0).cycle(BoilerDesk.RESCUE).levelFrom(470, 530).commands(0, 0).pumpsOn(0);
    }

    private static void sparesFailedPumpsOnly() {
        Boiler shut = boiler("failed pumps stay shut").started(400);
        shut.readings(399, 0, 0b0110, 0).cycle(BoilerDesk.DEGRADED).commands(0b1001, 0).pumpsOn(0b1001);
        shut.readings(399, 0, 0b1001, 0).repair(3).cycle(BoilerDesk.DEGRADED).commands(0b0010, 0).pumpsOn(0b1011);
        Boiler teller = boiler("a pump whose teller failed").started(400);
        teller.readings(399, 0, 0, 0b0110).cycle(BoilerDesk.DEGRADED).commands(15, 0).pumpsOn(15);
        Boiler on = boiler("failed pumps are shut, too").startedPumping(300, 600);
        on.readings(660, 0, 0b0011, 15).cycle(BoilerDesk.DEGRADED).commands(0, 15).pumpsOn(0);
    }

    private static void commandsNothingWhenStopped() {
        boiler("valve stays open").quiet(700, 0).say(Boiler.WAITING).cycle(BoilerDesk.INITIAL)
                .quiet(700, 1).cycle(BoilerDesk.STOPPED).told(1, 0).state(7, 1)
                .quiet(500, 0).cycle(BoilerDesk.STOPPED).told(1, 0).state(7, 1);
        boiler("pumps stay on").startedPumping(300, 600).readings(-1, 51, 15, 15).cycle(BoilerDesk.STOPPED)
                .commands(0, 0).pumpsOn(15).quiet(700, 0).cycle(BoilerDesk.STOPPED).commands(0, 0).pumpsOn(15);
    }
}
