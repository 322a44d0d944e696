import java.util.ArrayList;
import java.util.List;

/**
 * The document written down a second time, step by step and without thrift: it keeps every cycle's pumps, good units
 * and messages, and looks back at them. PaperModelTest compares the program with it.
 */
final class PaperDesk {
    /** What was received for one cycle; null is what was not. */
    static final class Post {
        Integer level;
        Integer steam;
        final Boolean[] on = new Boolean[4];
        final Boolean[] gives = new Boolean[4];
        boolean waiting;
        boolean ready;
        boolean stop;
        final boolean[] repair = new boolean[10];
        final boolean[] acknowledgement = new boolean[10];
    }

    /** How all stood at the end of one cycle. */
    static final class Page {
        final boolean[] good = new boolean[10];
        final boolean[] on = new boolean[4];
        final Post post;

        Page(Post post) {
            this.post = post;
        }
    }

    /** Ends a cycle in the midst of it. */
    private static final class Stop extends Exception {
        private static final long serialVersionUID = 1L;
    }

    private int c, m1, n1, n2, m2, w, u1, u2, p;
    private List<Page> pages;
    private Post post;
    private int mode, cycles, levelFrom, levelTo, steamFrom, steamTo;
    private boolean[] failed, acknowledged, on, detected, repaired, toldOn, toldShut;
    private boolean open, toldOpen, toldClosed, toldReady;
    private int expectedLevelFrom, expectedLevelTo, expectedSteamFrom, expectedSteamTo;

    PaperDesk() {
        begin(1000, 100, 400, 600, 900, 50, 5, 5, 15);
    }

    void begin(int c, int m1, int n1, int n2, int m2, int w, int u1, int u2, int p) {
        if (c > 1000000 || m1 < 0 || n1 <= m1 || n2 <= n1 || m2 <= n2 || c < m2 || w < 0 || w > 100000
                || u1 < 0 || u1 > 100000 || u2 < 0 || u2 > 100000 || p < 1 || p > 100000) {
            throw new IllegalArgumentException();
        }
        this.c = c;
        this.m1 = m1;
        this.n1 = n1;
        this.n2 = n2;
        this.m2 = m2;
        this.w = w;
        this.u1 = u1;
        this.u2 = u2;
        this.p = p;
        mode = 0;
        cycles = 0;
        levelFrom = 0;
        levelTo = c;
        steamFrom = 0;
        steamTo = w;
        failed = new boolean[10];
        acknowledged = new boolean[10];
        on = new boolean[4];
        open = false;
        post = new Post();
        pages = new ArrayList<>();
        // Two cycles that never were, so that the first one can look back.
        pages.add(page(new Post()));
        pages.add(page(new Post()));
        tellNothing();
    }

    private Page page(Post received) {
        Page page = new Page(received);
        for (int unit = 0; unit < 10; unit++) {
            page.good[unit] = !failed[unit];
        }
        System.arraycopy(on, 0, page.on, 0, 4);
        return page;
    }

    private Page back(int cyclesBack) {
        return pages.get(pages.size() - cyclesBack);
    }

    private void tellNothing() {
        detected = new boolean[10];
        repaired = new boolean[10];
        toldOn = new boolean[4];
        toldShut = new boolean[4];
        toldOpen = false;
        toldClosed = false;
        toldReady = false;
    }

    void level(int v) {
        post.level = v;
    }

    void steam(int v) {
        post.steam = v;
    }

    void pump(int pump, boolean isOn, boolean gives) {
        if (pump < 0 || pump > 3) {
            throw new IllegalArgumentException();
        }
        post.on[pump] = isOn;
        post.gives[pump] = gives;
    }

    void say(int what) {
        if (what == 0) {
            post.waiting = true;
        } else if (what == 1) {
            post.ready = true;
        } else if (what == 2) {
            post.stop = true;
        } else {
            throw new IllegalArgumentException();
        }
    }

    void unit(int unit, boolean isRepair) {
        if (unit < 0 || unit > 9) {
            throw new IllegalArgumentException();
        }
        (isRepair ? post.repair : post.acknowledgement)[unit] = true;
    }

    int cycle() {
        tellNothing();
        cycles++;
        if (mode != 4) {
            try {
                a();
                b();
                c();
                d();
                e();
                f();
                g();
            } catch (Stop stop) {
                mode = 4;
            }
        }
        pages.add(page(post));
        post = new Post();
        return mode;
    }

    private void a() throws Stop {
        if (post.stop && back(1).post.stop && back(2).post.stop) {
            throw new Stop();
        }
        if (post.level == null || post.steam == null) {
            throw new Stop();
        }
        for (int pump = 0; pump < 4; pump++) {
            if (post.on[pump] == null || post.gives[pump] == null) {
                throw new Stop();
            }
        }
    }

    private void b() throws Stop {
        for (int unit = 0; unit < 10; unit++) {
            if (post.repair[unit] && failed[unit]) {
                failed[unit] = false;
                acknowledged[unit] = false;
                repaired[unit] = true;
            } else if (post.repair[unit] && mode != 0) {
                throw new Stop();
            }
        }
        for (int unit = 0; unit < 10; unit++) {
            if (post.acknowledgement[unit] && failed[unit] && !acknowledged[unit]) {
                acknowledged[unit] = true;
            } else if (post.acknowledgement[unit] && mode != 0) {
                throw new Stop();
            }
        }
    }

    private void c() {
        if (mode == 0) {
            return;
        }
        expectedSteamFrom = steamFrom - u2 < 0 ? 0 : steamFrom - u2;
        expectedSteamTo = steamTo + u1 > w ? w : steamTo + u1;
        int from = levelFrom - (steamTo > expectedSteamTo ? steamTo : expectedSteamTo);
        int to = levelTo - (steamFrom < expectedSteamFrom ? steamFrom : expectedSteamFrom);
        for (int pump = 0; pump < 4; pump++) {
            boolean bothGood = back(1).good[2 + pump] && back(1).good[6 + pump];
            boolean wasOn = back(1).on[pump];
            if (bothGood && wasOn && back(2).on[pump] && back(1).post.gives[pump]) {
                from += p;
                to += p;
            } else if (!(bothGood && !wasOn)) {
                to += p;
            }
        }
        expectedLevelFrom = from < 0 ? 0 : from > c ? c : from;
        expectedLevelTo = to < 0 ? 0 : to > c ? c : to;
    }

    private void d() {
        boolean levelWrong = post.level < 0 || post.level > c
                || mode != 0 && (post.level < expectedLevelFrom || post.level > expectedLevelTo);
        boolean steamWrong = post.steam < 0 || post.steam > w
                || mode != 0 && (post.steam < expectedSteamFrom || post.steam > expectedSteamTo);
        for (int unit = 0; unit < 10; unit++) {
            if (failed[unit]) {
                continue;
            }
            boolean wrong;
            if (unit == 0) {
                wrong = levelWrong;
            } else if (unit == 1) {
                wrong = steamWrong;
            } else if (unit < 6) {
                wrong = post.on[unit - 2] != back(1).on[unit - 2];
            } else {
                int pump = unit - 6;
                wrong = !failed[2 + pump] && (post.gives[pump] && !back(1).on[pump]
                        || !post.gives[pump] && back(1).on[pump] && back(2).on[pump]);
            }
            failed[unit] = wrong;
            detected[unit] = wrong;
        }
    }

    private void e() {
        levelFrom = !failed[0] ? post.level : mode == 0 ? 0 : expectedLevelFrom;
        levelTo = !failed[0] ? post.level : mode == 0 ? c : expectedLevelTo;
        steamFrom = !failed[1] ? post.steam : mode == 0 ? 0 : expectedSteamFrom;
        steamTo = !failed[1] ? post.steam : mode == 0 ? w : expectedSteamTo;
    }

    private void f() throws Stop {
        boolean anyFailed = false;
        for (boolean one : failed) {
            anyFailed |= one;
        }
        if (mode == 0) {
            if (failed[0] || failed[1]) {
                throw new Stop();
            }
            if (waitingEver()) {
                if (post.steam != 0) {
                    throw new Stop();
                }
                if (post.ready && n1 <= post.level && post.level <= n2) {
                    mode = anyFailed ? 2 : 1;
                    return;
                }
            }
            if (post.ready) {
                throw new Stop();
            }
            return;
        }
        if (levelFrom <= m1 || levelTo >= m2) {
            throw new Stop();
        }
        if (failed[0]) {
            if (failed[1] || failed[6] || failed[7] || failed[8] || failed[9]) {
                throw new Stop();
            }
            mode = 3;
        } else {
            mode = anyFailed ? 2 : 1;
        }
    }

    private boolean waitingEver() {
        boolean waiting = post.waiting;
        for (Page page : pages) {
            waiting |= page.post.waiting;
        }
        return waiting;
    }

    private void g() {
        if (mode == 0) {
            if (waitingEver()) {
                valve(post.level > n2);
                if (post.level < n1) {
                    goodPumpsOn();
                } else {
                    allPumpsShut();
                }
                toldReady = post.level >= n1 && post.level <= n2;
            }
            return;
        }
        valve(false);
        boolean above = levelTo > n2;
        boolean below = levelFrom < n1;
        if (above && !below) {
            allPumpsShut();
        } else if (below && !above) {
            goodPumpsOn();
        } else if (below && above) {
            if (n1 - levelFrom > levelTo - n2) {
                goodPumpsOn();
            } else {
                allPumpsShut();
            }
        }
    }

    private void valve(boolean toBeOpen) {
        toldOpen = toBeOpen && !open;
        toldClosed = !toBeOpen && open;
        open = toBeOpen;
    }

    private void goodPumpsOn() {
        for (int pump = 0; pump < 4; pump++) {
            if (!failed[2 + pump] && !on[pump]) {
                on[pump] = true;
                toldOn[pump] = true;
            }
        }
    }

    private void allPumpsShut() {
        for (int pump = 0; pump < 4; pump++) {
            if (on[pump]) {
                on[pump] = false;
                toldShut[pump] = true;
            }
        }
    }

    private static int bits(boolean[] set) {
        int bits = 0;
        for (int k = 0; k < set.length; k++) {
            bits += set[k] ? 1 << k : 0;
        }
        return bits;
    }

    int told(int what) {
        switch (what) {
            case 0: return bits(toldOn) + 16 * bits(toldShut);
            case 1: return toldOpen ? 1 : toldClosed ? 2 : 0;
            case 2: return bits(detected);
            case 3: return bits(repaired);
            case 4: return toldReady ? 1 : 0;
            default: throw new IllegalArgumentException();
        }
    }

    int state(int what) {
        switch (what) {
            case 0: return levelFrom;
            case 1: return levelTo;
            case 2: return steamFrom;
            case 3: return steamTo;
            case 4: return bits(failed);
            case 5: return bits(acknowledged);
            case 6: return bits(on);
            case 7: return open ? 1 : 0;
            case 8: return mode;
            case 9: return cycles;
            default: throw new IllegalArgumentException();
        }
    }
}
