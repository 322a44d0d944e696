/** Terms 3 (e): what is ESTIMATED. */
final class StepEEstimate extends Group {
    StepEEstimate(Sentences sentences) {
        super(sentences);
    }

    @Override
    void run() {
        sentence("(e) ESTIMATED: the level: what was received, if it is GOOD; else as EXPECTED (INITIAL: 0 to C);",
                this::level);
        sentence("steam likewise (0 to W).", this::steam);
    }

    private void level() {
        for (int level : new int[] {0, 321, 1000}) {
            boiler("INITIAL, good").quiet(level, 12).cycle(Boiler.INITIAL).levelFrom(level, level);
        }
        for (int level : new int[] {-1, 1001}) {
            boiler("INITIAL, failed").quiet(321, 12).cycle(Boiler.INITIAL)
                    .quiet(level, 7).cycle(Boiler.STOPPED).levelFrom(0, 1000).steamFrom(7, 7);
        }
        for (int level : new int[] {495, 500}) {
            boiler("good").started(500).quiet(level, 3).cycle(Boiler.NORMAL).levelFrom(level, level);
        }
        for (int level : new int[] {-1, 494, 501}) {
            boiler("failed").started(500).quiet(level, 3).cycle(Boiler.RESCUE).levelFrom(495, 500).steamFrom(3, 3)
                    .quiet(490, 3).cycle(Boiler.RESCUE).levelFrom(487, 500)
                    .quiet(490, 3).repair(0).cycle(Boiler.NORMAL).levelFrom(490, 490);
        }
        boiler("steam failed").started(500).quiet(498, 6).cycle(Boiler.DEGRADED).levelFrom(498, 498);
    }

    private void steam() {
        for (int steam : new int[] {0, 12, 50}) {
            boiler("INITIAL, good").quiet(500, steam).cycle(Boiler.INITIAL).steamFrom(steam, steam);
        }
        for (int steam : new int[] {-1, 51}) {
            boiler("INITIAL, failed").quiet(321, 12).cycle(Boiler.INITIAL)
                    .quiet(300, steam).cycle(Boiler.STOPPED).levelFrom(300, 300).steamFrom(0, 50);
        }
        for (int steam : new int[] {0, 5}) {
            boiler("good").started(500).quiet(500, steam).cycle(Boiler.NORMAL).steamFrom(steam, steam);
        }
        for (int steam : new int[] {-1, 6}) {
            boiler("failed").started(500).quiet(498, steam).cycle(Boiler.DEGRADED).levelFrom(498, 498).steamFrom(0, 5)
                    .quiet(490, 3).cycle(Boiler.DEGRADED).steamFrom(0, 10)
                    .quiet(480, 15).repair(1).cycle(Boiler.NORMAL).steamFrom(15, 15);
        }
        boiler("both failed").started(500).quiet(501, 6).cycle(Boiler.STOPPED).levelFrom(495, 500).steamFrom(0, 5);
    }
}
