/** Promise 2: begin takes the constants within their bounds, and makes all anew; else it throws and changes nothing. */
public final class Promise02BeginTest {
    private static final Checks CHECKS = new Checks();
    private static final int[] SOUND = {1000, 100, 400, 600, 900, 50, 5, 5, 15};

    public static void main(String[] args) {
        takesTheEdges();
        refusesWhatIsOutside();
        usesWhatItTook();
        makesAllAnew();
        changesNothingWhenItThrows();
        CHECKS.end();
    }

    private static void begin(BoilerDesk desk, int... k) {
        desk.begin(k[0], k[1], k[2], k[3], k[4], k[5], k[6], k[7], k[8]);
    }

    private static int[] soundBut(int place, int value) {
        int[] k = SOUND.clone();
        k[place] = value;
        return k;
    }

    private static void takes(int... k) {
        BoilerDesk desk = new BoilerDesk();
        begin(desk, k);
        CHECKS.equal("C taken", desk.state(1), k[0]);
        CHECKS.equal("W taken", desk.state(3), k[5]);
    }

    private static void refuses(int... k) {
        CHECKS.illegalArgument("begin" + java.util.Arrays.toString(k), () -> begin(new BoilerDesk(), k));
    }

    private static void takesTheEdges() {
        takes(SOUND);
        takes(3, 0, 1, 2, 3, 0, 0, 0, 1);
        takes(1000000, 0, 1, 2, 3, 100000, 100000, 100000, 100000);
        takes(1000000, 999997, 999998, 999999, 1000000, 0, 100000, 0, 100000);
    }

    private static void refusesWhatIsOutside() {
        refuses(soundBut(0, 899));
        refuses(soundBut(0, 1000001));
        refuses(soundBut(0, Integer.MAX_VALUE));
        refuses(soundBut(1, -1));
        refuses(soundBut(1, 400));
        refuses(soundBut(2, 100));
        refuses(soundBut(2, 600));
        refuses(soundBut(3, 400));
        refuses(soundBut(3, 900));
        refuses(soundBut(4, 600));
        refuses(soundBut(4, 1001));
        for (int rate = 5; rate <= 8; rate++) {
            refuses(soundBut(rate, rate == 8 ? 0 : -1));
            refuses(soundBut(rate, 100001));
        }
        for (int place = 0; place < SOUND.length; place++) {
            refuses(soundBut(place, Integer.MIN_VALUE));
            refuses(soundBut(place, Integer.MAX_VALUE));
        }
        refuses(2, -1, 0, 1, 2, 0, 0, 0, 1);
        refuses(0, 0, 0, 0, 0, 0, 0, 0, 1);
    }

    /** Every constant differs from that of a new object, and from every other one. */
    private static void usesWhatItTook() {
        Boiler boiler = new Boiler(CHECKS, "constants taken");
        boiler.desk.begin(2000, 200, 500, 700, 1500, 90, 7, 3, 21);
        boiler.states(0, 2000, 0, 90, 0, 0, 0, 0, 0, 0);
        boiler.quiet(499, 0).say(Boiler.WAITING).cycle(BoilerDesk.INITIAL).commands(15, 0).told(4, 0);
        boiler.readings(701, 0, Boiler.ALL, Boiler.NONE).cycle(BoilerDesk.INITIAL).commands(0, 15).told(1, 1);
        boiler.quiet(499, 0).cycle(BoilerDesk.INITIAL).told(1, 2);
        boiler.readings(700, 0, Boiler.ALL, Boiler.NONE).say(Boiler.READY).cycle(BoilerDesk.NORMAL);
        boiler.readings(-1, 7, Boiler.ALL, Boiler.ALL).cycle(BoilerDesk.RESCUE).levelFrom(693, 784).steamFrom(7, 7);
        boiler.readings(-1, 7, Boiler.NONE, Boiler.NONE).cycle(BoilerDesk.RESCUE).levelFrom(679, 780);
        reachesInOneCycle(201, BoilerDesk.NORMAL);
        reachesInOneCycle(200, BoilerDesk.STOPPED);
        reachesInOneCycle(1499, BoilerDesk.NORMAL);
        reachesInOneCycle(1500, BoilerDesk.STOPPED);
    }

    /** The rates are so large that every level may come next. */
    private static void reachesInOneCycle(int level, int mode) {
        Boiler boiler = new Boiler(CHECKS, "to " + level);
        boiler.desk.begin(2000, 200, 500, 700, 1500, 1000, 1000, 1000, 1000);
        boiler.startedPumping(300, 600).readings(level, 0, Boiler.ALL, Boiler.ALL).cycle(mode).failed(0);
    }

    private static void makesAllAnew() {
        Boiler boiler = new Boiler(CHECKS, "anew");
        boiler.quiet(700, 0).say(Boiler.WAITING).cycle(BoilerDesk.INITIAL).state(7, 1);
        boiler.readings(300, 0, 1, 0).say(Boiler.STOP).acknowledge(2).cycle(BoilerDesk.INITIAL).detected(4);
        boiler.readings(300, 0, 14, 0).say(Boiler.STOP).acknowledge(2).cycle(BoilerDesk.INITIAL).acknowledged(4);
        boiler.readings(300, 0, 14, 14).say(Boiler.READY).repair(2);
        beginsLikeNew(boiler);
        // Neither the two STOPs nor WAITING are remembered, nor is what was received for the next cycle.
        boiler.quiet(300, 7).say(Boiler.STOP).cycle(BoilerDesk.INITIAL).commands(0, 0).repaired(0).state(9, 1);
        boiler.quiet(300, 7);
        begin(boiler.desk, SOUND);
        boiler.cycle(BoilerDesk.STOPPED);
        begin(boiler.desk, SOUND);
        boiler.states(0, 1000, 0, 50, 0, 0, 0, 0, 0, 0).quiet(500, 0).cycle(BoilerDesk.INITIAL);
        forgetsWhatWasTold();
    }

    private static void forgetsWhatWasTold() {
        Boiler open = new Boiler(CHECKS, "valve open and a pump failed").readings(700, 0, 1, 0).say(Boiler.WAITING);
        open.cycle(BoilerDesk.INITIAL).told(1, 1).detected(1 << 2).state(7, 1);
        beginsLikeNew(open);
        Boiler ready = new Boiler(CHECKS, "repaired and PROGRAM READY").readings(300, 0, 1, 0).say(Boiler.WAITING);
        ready.cycle(BoilerDesk.INITIAL).commands(14, 0);
        ready.readings(500, 0, 14, 0).repair(2).cycle(BoilerDesk.INITIAL).commands(0, 14).repaired(1 << 2).told(4, 1);
        beginsLikeNew(ready);
    }

    private static void beginsLikeNew(Boiler boiler) {
        begin(boiler.desk, SOUND);
        boiler.states(0, 1000, 0, 50, 0, 0, 0, 0, 0, 0).toldNothing();
    }

    private static void changesNothingWhenItThrows() {
        Boiler boiler = new Boiler(CHECKS, "unchanged").started(500);
        boiler.quiet(-1, 3).cycle(BoilerDesk.RESCUE).quiet(490, 4).acknowledge(0);
        CHECKS.illegalArgument("begin with P 0", () -> begin(boiler.desk, soundBut(8, 0)));
        CHECKS.illegalArgument("begin with C too large", () -> begin(boiler.desk, soundBut(0, 1000001)));
        boiler.states(495, 500, 3, 3, 1, 0, 0, 0, BoilerDesk.RESCUE, 2).detected(Boiler.LEVEL);
        boiler.cycle(BoilerDesk.RESCUE).acknowledged(Boiler.LEVEL).levelFrom(487, 500).steamFrom(4, 4);
    }
}
