import java.util.Random;

/** Long made-up runs, always the same ones, in which the program must answer what the paper model answers. */
public final class PaperModelTest {
    private static final int RUNS = 20000;
    private static final int MOST_CYCLES = 60;

    private final Checks checks = new Checks();
    private final Random random = new Random(20261115L);
    private final int[] cyclesInMode = new int[5];
    private int run;
    private BoilerDesk desk;
    private PaperDesk paper;
    private int c, n1, n2, w, u1, u2, p;
    private int onBefore;

    public static void main(String[] args) {
        new PaperModelTest().test();
    }

    private void test() {
        for (run = 0; run < RUNS; run++) {
            desk = new BoilerDesk();
            paper = new PaperDesk();
            beginSomehow();
            runCycles();
        }
        for (int mode = 0; mode < 5; mode++) {
            System.out.println("cycles that ended in mode " + mode + ": " + cyclesInMode[mode]);
            checks.holds("mode " + mode + " was met often enough: " + cyclesInMode[mode], cyclesInMode[mode] > 1000);
        }
        checks.end();
    }

    private boolean rarely(int oneIn) {
        return random.nextInt(oneIn) == 0;
    }

    private int between(int from, int to) {
        return from + random.nextInt(to - from + 1);
    }

    private void beginSomehow() {
        int scale = rarely(3) ? 1 : rarely(3) ? 1000 : between(1, 20);
        int m1 = between(0, 20) * scale;
        n1 = m1 + between(1, 40) * scale;
        n2 = n1 + between(1, 30) * scale;
        int m2 = n2 + between(1, 40) * scale;
        c = m2 + between(0, 20) * scale;
        w = between(0, 20) * scale;
        u1 = between(0, 6) * scale;
        u2 = between(0, 6) * scale;
        p = between(1, 6) * scale;
        onBefore = 0;
        desk.begin(c, m1, n1, n2, m2, w, u1, u2, p);
        paper.begin(c, m1, n1, n2, m2, w, u1, u2, p);
        compare("begin");
    }

    private void runCycles() {
        int cycles = between(1, MOST_CYCLES);
        int stoppedFor = 0;
        for (int cycle = 0; cycle < cycles && stoppedFor < 3; cycle++) {
            sendReadings();
            sendWords(cycle);
            sendUnits();
            if (rarely(400)) {
                beginSomehow();
            }
            int on = desk.state(6);
            int mode = desk.cycle();
            checks.equal("run " + run + ", cycle " + cycle, mode, paper.cycle());
            compare("run " + run + ", cycle " + cycle);
            cyclesInMode[mode]++;
            stoppedFor = mode == BoilerDesk.STOPPED ? stoppedFor + 1 : 0;
            onBefore = on;
        }
    }

    /** Mostly what a sound boiler would send, sometimes just beside it. */
    private void sendReadings() {
        boolean initial = desk.state(8) == BoilerDesk.INITIAL;
        int steam = initial ? 0 : between(Math.max(0, desk.state(2) - u2), Math.min(w, desk.state(3) + u1));
        int giving = Integer.bitCount(desk.state(6) & onBefore) * p;
        int level = initial
                ? between(Math.max(0, n1 - p), Math.min(c, n2 + p))
                : desk.state(rarely(2) ? 0 : 1) - steam + giving;
        if (rarely(12)) {
            level += between(-2 * p - u1, 2 * p + u2);
        }
        if (rarely(25)) {
            steam += between(-1, 1) * between(0, 1 + u1 + u2);
        }
        int on = desk.state(6) ^ (rarely(12) ? random.nextInt(16) : 0);
        int gives = desk.state(6) & (rarely(3) ? 15 : onBefore) ^ (rarely(12) ? random.nextInt(16) : 0);
        if (!rarely(200)) {
            sendLevel(rarely(60) ? between(-1, c + 1) : level);
        }
        if (!rarely(200)) {
            sendSteam(rarely(60) ? between(-1, w + 1) : steam);
        }
        for (int pump = 0; pump < 4; pump++) {
            if (!rarely(500)) {
                sendPump(pump, (on >> pump & 1) == 1, (gives >> pump & 1) == 1);
            }
        }
    }

    private void sendLevel(int v) {
        desk.level(v);
        paper.level(v);
    }

    private void sendSteam(int v) {
        desk.steam(v);
        paper.steam(v);
    }

    private void sendPump(int pump, boolean on, boolean gives) {
        desk.pump(pump, on, gives);
        paper.pump(pump, on, gives);
    }

    private void sendWords(int cycle) {
        boolean initial = desk.state(8) == BoilerDesk.INITIAL;
        if (initial ? rarely(2) : rarely(10)) {
            sendWord(0);
        }
        if (initial && cycle > 0 ? desk.told(4) == 1 && rarely(2) : rarely(50)) {
            sendWord(1);
        }
        if (rarely(6)) {
            sendWord(2);
        }
    }

    private void sendWord(int what) {
        desk.say(what);
        paper.say(what);
    }

    private void sendUnits() {
        int failed = desk.state(4);
        for (int unit = 0; unit < 10; unit++) {
            boolean hasFailed = (failed >> unit & 1) == 1;
            boolean wasAcknowledged = (desk.state(5) >> unit & 1) == 1;
            if (hasFailed ? rarely(3) : rarely(1000)) {
                sendUnit(unit, true);
            } else if (hasFailed && !wasAcknowledged ? rarely(3) : rarely(1000)) {
                sendUnit(unit, false);
            }
            if (rarely(1000)) {
                sendUnit(unit, rarely(2));
            }
        }
    }

    private void sendUnit(int unit, boolean repaired) {
        desk.unit(unit, repaired);
        paper.unit(unit, repaired);
    }

    private void compare(String where) {
        for (int what = 0; what <= 4; what++) {
            checks.equal(where + ": told(" + what + ")", desk.told(what), paper.told(what));
        }
        for (int what = 0; what <= 9; what++) {
            checks.equal(where + ": state(" + what + ")", desk.state(what), paper.state(what));
        }
    }
}
