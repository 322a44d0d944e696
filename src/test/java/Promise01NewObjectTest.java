/** Promise 1: a new object, and each of its constants by what can be seen of it. */
public final class Promise01NewObjectTest {
    private static final Checks CHECKS = new Checks();

    public static void main(String[] args) {
        startsInInitial();
        hasItsNormalBounds();
        hasItsLowLimit();
        hasItsHighLimit();
        hasItsCapacityAndMostSteam();
        hasItsSteamChanges();
        hasItsPumpRate();
        objectsAreApart();
        CHECKS.end();
    }

    private static Boiler boiler(String name) {
        return new Boiler(CHECKS, name);
    }

    private static void startsInInitial() {
        boiler("new").states(0, 1000, 0, 50, 0, 0, 0, 0, 0, 0).toldNothing();
    }

    private static void hasItsNormalBounds() {
        boiler("N1").quiet(400, 0).say(Boiler.WAITING).cycle(BoilerDesk.INITIAL).told(4, 1).commands(0, 0);
        boiler("below N1").quiet(399, 0).say(Boiler.WAITING).cycle(BoilerDesk.INITIAL).told(4, 0).commands(15, 0);
        boiler("N2").quiet(600, 0).say(Boiler.WAITING).cycle(BoilerDesk.INITIAL).told(4, 1).told(1, 0);
        boiler("above N2").quiet(601, 0).say(Boiler.WAITING).cycle(BoilerDesk.INITIAL).told(4, 0).told(1, 1);
    }

    /** All pumps have failed: they are never turned on, and the level may sink with the steam. */
    private static Boiler withFailedPumps(String name, int level) {
        return boiler(name).readings(level, 0, Boiler.ALL, Boiler.NONE).say(Boiler.WAITING).say(Boiler.READY)
                .cycle(BoilerDesk.DEGRADED);
    }

    private static void hasItsLowLimit() {
        Boiler sinking = withFailedPumps("M1", 400);
        int level = 400;
        for (int steam = 5; steam <= 50; steam += 5) {
            level -= steam;
            sinking.quiet(level, steam).cycle(BoilerDesk.DEGRADED);
        }
        CHECKS.equal("the level has sunk to", level, 125);
        sinking.quiet(101, 50).cycle(BoilerDesk.DEGRADED).failed(0b111100);
        sinking.quiet(100, 50).cycle(BoilerDesk.STOPPED).failed(0b111100);
    }

    private static void hasItsHighLimit() {
        Boiler rising = withFailedPumps("M2", 600);
        for (int level = 660; level <= 840; level += 60) {
            rising.quiet(level, 0).cycle(BoilerDesk.DEGRADED);
        }
        rising.quiet(899, 0).cycle(BoilerDesk.DEGRADED).failed(0b111100);
        rising.quiet(900, 0).cycle(BoilerDesk.STOPPED).failed(0b111100);
    }

    private static void hasItsCapacityAndMostSteam() {
        boiler("C").quiet(1000, 50).cycle(BoilerDesk.INITIAL).failed(0);
        boiler("above C").quiet(1001, 50).cycle(BoilerDesk.STOPPED).failed(Boiler.LEVEL);
        boiler("above W").quiet(1000, 51).cycle(BoilerDesk.STOPPED).failed(Boiler.STEAM);
    }

    private static void hasItsSteamChanges() {
        boiler("U1").started(500).quiet(500, 5).cycle(BoilerDesk.NORMAL).failed(0);
        boiler("above U1").started(500).quiet(500, 6).cycle(BoilerDesk.DEGRADED).failed(Boiler.STEAM);
        Boiler falling = boiler("U2").started(500).quiet(500, 5).cycle(BoilerDesk.NORMAL);
        falling.quiet(495, 10).cycle(BoilerDesk.NORMAL).quiet(485, 5).cycle(BoilerDesk.NORMAL);
        falling.quiet(480, 10).cycle(BoilerDesk.NORMAL).quiet(470, 4).cycle(BoilerDesk.DEGRADED).failed(Boiler.STEAM);
    }

    private static void hasItsPumpRate() {
        boiler("P").startedPumping(300, 400)
                .readings(-1, 0, Boiler.ALL, Boiler.ALL).cycle(BoilerDesk.RESCUE).levelFrom(395, 460)
                .readings(-1, 0, Boiler.ALL, Boiler.ALL).cycle(BoilerDesk.RESCUE).levelFrom(450, 520);
    }

    private static void objectsAreApart() {
        Boiler one = boiler("one").startedPumping(300, 400);
        boiler("other").states(0, 1000, 0, 50, 0, 0, 0, 0, 0, 0).toldNothing().cycle(BoilerDesk.STOPPED);
        one.state(8, BoilerDesk.NORMAL).state(9, 2);
    }
}
