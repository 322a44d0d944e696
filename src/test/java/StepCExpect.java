/** Terms 3 (c): what is EXPECTED, seen as the estimate of a unit that has failed (in a cycle that stops, too). */
final class StepCExpect extends Group {
    private static final int[] NO_STEAM = {1000, 100, 400, 600, 900, 0, 0, 0, 15};

    StepCExpect(Sentences sentences) {
        super(sentences);
    }

    @Override
    void run() {
        sentence("(c) EXPECTED now (not in INITIAL):", this::notInInitial);
        sentence("steam from the lesser one less U2, 0 at least,", this::leastSteam);
        sentence("to the greater one and U1, W at most;", this::mostSteam);
        sentence("level from (its lesser one less the greater of both greater steams, and what pumps give at least)",
                this::leastLevel);
        sentence("to (its greater one less the lesser of both lesser steams, and what they give at most),",
                this::greatestLevel);
        sentence("each of both 0 at least, C at most;", this::levelWithinCapacity);
        sentence("of what was estimated in the cycle before and, for steam, what is EXPECTED now.", this::ofWhat);
        sentence("A pump gives just P, if it and what tells of it are GOOD, it is on, was on at the end of the cycle "
                + "before that one, too, and said that it gives in the cycle before;", this::givesJustP);
        sentence("0, if both are GOOD and it is SHUT;", this::givesNothing);
        sentence("else from 0 to P.", this::mayGive);
        sentence("(GOOD, on, SHUT: as at the end of the cycle before.)", this::asAtTheEndOfTheCycleBefore);
    }

    private void notInInitial() {
        boiler("any level and steam").quiet(1000, 0).cycle(Boiler.INITIAL).quiet(0, 50).cycle(Boiler.INITIAL)
                .quiet(1000, 0).cycle(Boiler.INITIAL).failed(0).levelFrom(1000, 1000).steamFrom(0, 0);
        boiler("the cycle in which INITIAL ends").quiet(1000, 50).cycle(Boiler.INITIAL).started(500).failed(0);
        boiler("the cycle behind it").started(500).quiet(501, 0).cycle(Boiler.RESCUE).failed(Boiler.LEVEL);
    }

    /** Steam was 7 and is not known now. */
    private Boiler steamLostAtSeven(int w, int u1, int u2) {
        return boiler("W " + w + ", U1 " + u1 + ", U2 " + u2).begin(1000, 100, 400, 600, 900, w, u1, u2, 15)
                .started(500).quiet(500, 7).cycle(Boiler.NORMAL).steamFrom(7, 7)
                .quiet(493, -1).cycle(Boiler.DEGRADED).failed(Boiler.STEAM);
    }

    private void leastSteam() {
        steamLostAtSeven(50, 7, 0).steamFrom(7, 14);
        steamLostAtSeven(50, 7, 6).steamFrom(1, 14);
        steamLostAtSeven(50, 7, 7).steamFrom(0, 14);
        steamLostAtSeven(50, 7, 8).steamFrom(0, 14);
        steamLostAtSeven(50, 7, 100000).steamFrom(0, 14);
        steamLostAtSeven(50, 7, 3).steamFrom(4, 14).quiet(480, 9).cycle(Boiler.DEGRADED).steamFrom(1, 21)
                .quiet(470, 9).cycle(Boiler.DEGRADED).steamFrom(0, 28);
    }

    private void mostSteam() {
        steamLostAtSeven(13, 7, 5).steamFrom(2, 13);
        steamLostAtSeven(14, 7, 5).steamFrom(2, 14);
        steamLostAtSeven(15, 7, 5).steamFrom(2, 14);
        steamLostAtSeven(7, 7, 5).steamFrom(2, 7);
        steamLostAtSeven(100000, 100000, 5).steamFrom(2, 100000);
        steamLostAtSeven(20, 7, 5).steamFrom(2, 14).quiet(480, 9).cycle(Boiler.DEGRADED).steamFrom(0, 20);
    }

    private void leastLevel() {
        // Steam was 5 and is expected from 2 to 10, then was 6 and is expected from 3 to 11.
        Boiler level = boiler("level lost").begin(1000, 100, 400, 600, 900, 50, 5, 3, 15).started(500);
        level.quiet(498, 5).cycle(Boiler.NORMAL).quiet(-1, 6).cycle(Boiler.RESCUE).state(0, 488);
        level.quiet(-1, 6).cycle(Boiler.RESCUE).state(0, 477);
        Boiler most = boiler("steam is the most already").begin(1000, 100, 400, 600, 900, 5, 5, 3, 15).started(500);
        most.quiet(498, 5).cycle(Boiler.NORMAL).quiet(-1, 5).cycle(Boiler.RESCUE).state(0, 493);
        Boiler steam = boiler("steam lost").begin(1000, 100, 400, 600, 900, 50, 5, 3, 15).started(500);
        steam.quiet(500, -1).cycle(Boiler.DEGRADED).steamFrom(0, 5).quiet(-1, 0).cycle(Boiler.STOPPED).state(0, 490);
        boiler("steam can't change").begin(NO_STEAM).started(500).quiet(-1, 0).cycle(Boiler.RESCUE).state(0, 500);
        boiler("with what pumps give").startedPumping(300, 400)
                .readings(400, 0, Boiler.ALL, Boiler.ALL).cycle(Boiler.NORMAL)
                .readings(-1, 0, Boiler.ALL, Boiler.ALL).cycle(Boiler.RESCUE).state(0, 455)
                .readings(-1, 0, Boiler.ALL, Boiler.ALL).cycle(Boiler.RESCUE).state(0, 510);
    }

    private void greatestLevel() {
        Boiler level = boiler("level lost").begin(1000, 100, 400, 600, 900, 50, 5, 3, 15).started(500);
        level.quiet(498, 5).cycle(Boiler.NORMAL).quiet(-1, 6).cycle(Boiler.RESCUE).state(1, 496);
        level.quiet(-1, 6).cycle(Boiler.RESCUE).state(1, 493);
        Boiler least = boiler("steam may be 0").begin(1000, 100, 400, 600, 900, 50, 5, 9, 15).started(500);
        least.quiet(498, 5).cycle(Boiler.NORMAL).quiet(-1, 5).cycle(Boiler.RESCUE).state(1, 498);
        Boiler stays = boiler("steam can't fall").begin(1000, 100, 400, 600, 900, 50, 5, 0, 15).started(500);
        stays.quiet(498, 5).cycle(Boiler.NORMAL).quiet(-1, 5).cycle(Boiler.RESCUE).state(1, 493);
        boiler("with what pumps give").startedPumping(300, 400)
                .readings(400, 0, Boiler.ALL, Boiler.ALL).cycle(Boiler.NORMAL)
                .readings(-1, 0, Boiler.ALL, Boiler.ALL).cycle(Boiler.RESCUE).state(1, 460)
                .readings(-1, 0, Boiler.ALL, Boiler.ALL).cycle(Boiler.RESCUE).state(1, 520);
        boiler("with what they may give").startedPumping(300, 400)
                .readings(-1, 0, Boiler.ALL, Boiler.ALL).cycle(Boiler.RESCUE).levelFrom(395, 460);
    }

    private void levelWithinCapacity() {
        lesserAtZero(499, 1);
        lesserAtZero(500, 0);
        lesserAtZero(501, 0);
        lesserAtZero(100000, 0);
        lesserAtCapacity(499, 999);
        lesserAtCapacity(500, 1000);
        lesserAtCapacity(501, 1000);
        greaterAtZero(449, 1);
        greaterAtZero(450, 0);
        greaterAtZero(451, 0);
        greaterAtCapacity(499, 999);
        greaterAtCapacity(500, 1000);
        greaterAtCapacity(501, 1000);
        boiler("four pumps of 100000").begin(1000, 0, 400, 600, 1000, 0, 0, 0, 100000).startedPumping(300, 500)
                .readings(-1, 0, Boiler.ALL, Boiler.ALL).cycle(Boiler.STOPPED).levelFrom(500, 1000);
    }

    private void lesserAtZero(int w, int from) {
        boiler("500 less " + w).begin(1000, 0, 400, 600, 1000, w, w, 0, 15).started(500)
                .quiet(-1, 0).cycle(from == 0 ? Boiler.STOPPED : Boiler.RESCUE).levelFrom(from, 500);
    }

    /** All four pumps surely give 125. */
    private void lesserAtCapacity(int level, int from) {
        boiler(level + " and 500").begin(1000, 0, 400, 600, 1000, 0, 0, 0, 125)
                .quiet(300, 0).say(Boiler.WAITING).cycle(Boiler.INITIAL)
                .readings(level, 0, Boiler.ALL, Boiler.ALL).say(Boiler.READY).cycle(Boiler.NORMAL)
                .readings(-1, 0, Boiler.ALL, Boiler.ALL).cycle(from == 1000 ? Boiler.STOPPED : Boiler.RESCUE)
                .levelFrom(from, from);
    }

    private void greaterAtZero(int steam, int to) {
        boiler("450 less " + steam).begin(1000, 0, 400, 600, 1000, 1000, 1000, 0, 15).started(500)
                .quiet(450, steam).cycle(Boiler.NORMAL).quiet(-1, steam).cycle(Boiler.STOPPED).levelFrom(0, to);
    }

    /** All four pumps may give 125. */
    private void greaterAtCapacity(int level, int to) {
        boiler(level + " and up to 500").begin(1000, 0, 400, 600, 1000, 0, 0, 0, 125).startedPumping(300, level)
                .readings(-1, 0, Boiler.ALL, Boiler.ALL).cycle(to == 1000 ? Boiler.STOPPED : Boiler.RESCUE)
                .levelFrom(level, to);
    }

    private void ofWhat() {
        // The level that is received is nothing while it has failed, nor is the steam of this cycle.
        Boiler level = boiler("level").started(500).quiet(-1, 0).cycle(Boiler.RESCUE).levelFrom(495, 500);
        level.quiet(300, 5).cycle(Boiler.RESCUE).levelFrom(490, 500);
        level.quiet(700, 10).cycle(Boiler.RESCUE).levelFrom(480, 500);
        level.quiet(-1, 7).cycle(Boiler.RESCUE).levelFrom(465, 495);
        level.quiet(-1, 7).cycle(Boiler.RESCUE).levelFrom(453, 493);
        Boiler steam = boiler("steam").started(500).quiet(500, 20).cycle(Boiler.DEGRADED).steamFrom(0, 5);
        steam.quiet(495, 50).cycle(Boiler.DEGRADED).steamFrom(0, 10);
        steam.quiet(485, 3).cycle(Boiler.DEGRADED).steamFrom(0, 15).levelFrom(485, 485);
        // A repaired unit is measured against what was estimated while it had failed.
        level.quiet(492, 7).repair(0).cycle(Boiler.RESCUE).repaired(1).detected(1).levelFrom(441, 491);
        level.quiet(490, 7).repair(0).cycle(Boiler.RESCUE).detected(1).levelFrom(429, 489);
        level.quiet(487, 7).repair(0).cycle(Boiler.NORMAL).detected(0).levelFrom(487, 487);
    }

    /** All pumps on behind two cycles, and all but these were said to give in the second; the level is 500. */
    private Boiler givingAllBut(int pumps, String name) {
        return boiler(name).begin(NO_STEAM).quiet(300, 0).say(Boiler.WAITING).cycle(Boiler.INITIAL)
                .readings(500, 0, Boiler.ALL, Boiler.ALL & ~pumps).say(Boiler.READY).cycle(Boiler.NORMAL).failed(0);
    }

    /** All pumps on behind two cycles, and these have failed in the second; the level is 500. */
    private Boiler givingWithFailed(int pumps, String name) {
        return boiler(name).begin(NO_STEAM).quiet(300, 0).say(Boiler.WAITING).cycle(Boiler.INITIAL)
                .readings(500, 0, Boiler.ALL & ~pumps, Boiler.ALL).say(Boiler.READY)
                .cycle(pumps == 0 ? Boiler.NORMAL : Boiler.DEGRADED).failed(pumps << 2);
    }

    private void givesJustP() {
        givingAllBut(0, "all conditions hold").readings(-1, 0, Boiler.ALL, Boiler.ALL).cycle(Boiler.RESCUE)
                .levelFrom(560, 560);
        for (int pumps = 1; pumps <= 15; pumps++) {
            int sure = 500 + 15 * (4 - Integer.bitCount(pumps));
            givingWithFailed(pumps, "pumps failed: " + pumps).readings(-1, 0, Boiler.ALL, Boiler.ALL)
                    .cycle(Boiler.RESCUE).levelFrom(sure, 560);
            givingAllBut(pumps, "not said to give in the cycle before: " + pumps)
                    .readings(-1, 0, Boiler.ALL, Boiler.ALL).cycle(Boiler.RESCUE).levelFrom(sure, 560);
            withFailedTellers(pumps).readings(-1, 0, Boiler.ALL, Boiler.ALL).cycle(Boiler.STOPPED)
                    .levelFrom(sure + 60, 620);
        }
        // What they say in this cycle is nothing.
        givingAllBut(0, "said not to give now").readings(-1, 0, Boiler.ALL, Boiler.NONE).cycle(Boiler.STOPPED)
                .levelFrom(560, 560);
        boiler("on only since the cycle before").started(400).quiet(399, 0).cycle(Boiler.NORMAL).commands(15, 0)
                .readings(-1, 0, Boiler.ALL, Boiler.ALL).cycle(Boiler.RESCUE).levelFrom(394, 459);
    }

    /** The level is 560, and the pumps have been on behind three cycles. */
    private Boiler withFailedTellers(int pumps) {
        return givingAllBut(0, "tellers failed: " + pumps).readings(560, 0, Boiler.ALL, Boiler.ALL & ~pumps)
                .cycle(Boiler.DEGRADED).failed(pumps << 6).pumpsOn(Boiler.ALL);
    }

    private void givesNothing() {
        boiler("all shut").begin(NO_STEAM).started(500).quiet(-1, 0).cycle(Boiler.RESCUE).levelFrom(500, 500);
        boiler("just shut").begin(NO_STEAM).quiet(300, 0).say(Boiler.WAITING).cycle(Boiler.INITIAL)
                .readings(590, 0, Boiler.ALL, Boiler.ALL).say(Boiler.READY).cycle(Boiler.NORMAL)
                .readings(650, 0, Boiler.ALL, Boiler.ALL).cycle(Boiler.NORMAL).commands(0, 15)
                .quiet(-1, 0).cycle(Boiler.RESCUE).levelFrom(650, 650);
        for (int pumps = 1; pumps <= 15; pumps++) {
            int most = 500 + 15 * Integer.bitCount(pumps);
            boiler("shut, failed: " + pumps).begin(NO_STEAM).started(500).readings(500, 0, pumps, 0)
                    .cycle(Boiler.DEGRADED).quiet(-1, 0).cycle(Boiler.RESCUE).levelFrom(500, most);
            boiler("shut, tellers failed: " + pumps).begin(NO_STEAM).started(500).readings(500, 0, 0, pumps)
                    .cycle(Boiler.DEGRADED).quiet(-1, 0).cycle(Boiler.STOPPED).levelFrom(500, most);
        }
    }

    private void mayGive() {
        for (int level : new int[] {560, 545}) {
            givingWithFailed(0b0001, "within 0 and P: " + level).readings(level, 0, Boiler.ALL, Boiler.ALL)
                    .cycle(Boiler.DEGRADED).detected(0);
        }
        for (int level : new int[] {561, 544}) {
            givingWithFailed(0b0001, "beyond: " + level).readings(level, 0, Boiler.ALL, Boiler.ALL)
                    .cycle(Boiler.RESCUE).detected(Boiler.LEVEL);
        }
    }

    private void asAtTheEndOfTheCycleBefore() {
        Boiler repaired = givingWithFailed(0b0001, "repaired only now").readings(-1, 0, Boiler.ALL, Boiler.ALL)
                .repair(2).cycle(Boiler.RESCUE).failed(Boiler.LEVEL).levelFrom(545, 560);
        repaired.readings(-1, 0, Boiler.ALL, Boiler.ALL).cycle(Boiler.RESCUE).levelFrom(605, 620);
        withFailedTellers(0b0100).readings(-1, 0, Boiler.ALL, Boiler.ALL).repair(8).cycle(Boiler.RESCUE)
                .failed(Boiler.LEVEL).levelFrom(605, 620);
        boiler("shut, repaired only now").begin(NO_STEAM).started(500).readings(500, 0, 0b0001, 0)
                .cycle(Boiler.DEGRADED).quiet(-1, 0).repair(2).cycle(Boiler.RESCUE).levelFrom(500, 515)
                .quiet(-1, 0).cycle(Boiler.RESCUE).levelFrom(500, 515);
        boiler("shut, teller repaired only now").begin(NO_STEAM).started(500).readings(500, 0, 0, 0b0001)
                .cycle(Boiler.DEGRADED).quiet(-1, 0).repair(6).cycle(Boiler.RESCUE).levelFrom(500, 515);
        givingAllBut(0, "failing only now").readings(-1, 0, 0b0111, Boiler.ALL).cycle(Boiler.RESCUE)
                .failed(Boiler.LEVEL | Boiler.pumpUnit(3)).levelFrom(560, 560);
        boiler("shut, failing only now").begin(NO_STEAM).started(500).readings(-1, 0, 0b0001, 0)
                .cycle(Boiler.RESCUE).levelFrom(500, 500);
        boiler("turned on only now").started(404).quiet(-1, 0).cycle(Boiler.RESCUE).levelFrom(399, 404).commands(15, 0)
                .readings(-1, 0, Boiler.ALL, Boiler.NONE).cycle(Boiler.RESCUE).levelFrom(394, 464);
    }
}
