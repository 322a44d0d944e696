/** Terms 3 (b): repairs and acknowledgements. */
final class StepBRepair extends Group {
    StepBRepair(Sentences sentences) {
        super(sentences);
    }

    @Override
    void run() {
        sentence("(b) A repair of a UNIT that has FAILED: it is GOOD (ACKNOWLEDGED no more), and told as REPAIRED.",
                this::repairs);
        sentence("and told as REPAIRED. (Of others: STOPPED, but in INITIAL.)", this::repairsOfOthers);
        sentence("An acknowledgement of one that has FAILED and was not ACKNOWLEDGED: it is.", this::acknowledgements);
        sentence("was not ACKNOWLEDGED: it is. (Of others: STOPPED, but in INITIAL.)", this::acknowledgementsOfOthers);
        sentence("UNITS in their order,", this::unitsInTheirOrder);
        sentence("all repairs first (so an acknowledgement of one that was just repaired is one of others);",
                this::repairsFirst);
        sentence("what makes it STOPPED ends this at once.", this::endsAtOnce);
    }

    /** Pumps 0, 2 and 3 have failed, pump 1 is good; all are shut. */
    private Boiler threeFailed(String name) {
        return boiler(name).started(500).readings(500, 0, 0b1101, 0).cycle(Boiler.DEGRADED).failed(0b110100);
    }

    private static int modeWith(int failedUnit) {
        return failedUnit == 0 ? Boiler.RESCUE : Boiler.DEGRADED;
    }

    private void repairs() {
        for (int unit = 0; unit <= 9; unit++) {
            int bit = 1 << unit;
            withFailed(unit, "not acknowledged").quiet(500, 0).repair(unit).cycle(Boiler.NORMAL)
                    .repaired(bit).failed(0).acknowledged(0).detected(0)
                    .quiet(500, 0).cycle(Boiler.NORMAL).repaired(0);
            withFailed(unit, "acknowledged").quiet(500, 0).acknowledge(unit).cycle(modeWith(unit)).acknowledged(bit)
                    .quiet(500, 0).repair(unit).cycle(Boiler.NORMAL).repaired(bit).failed(0).acknowledged(0);
        }
        threeFailed("all").quiet(500, 0).repair(5).repair(4).repair(2).cycle(Boiler.NORMAL)
                .repaired(0b110100).failed(0);
        threeFailed("one of those acknowledged").quiet(500, 0).acknowledge(4).acknowledge(2).cycle(Boiler.DEGRADED)
                .quiet(500, 0).repair(4).cycle(Boiler.DEGRADED).repaired(1 << 4).failed(0b100100).acknowledged(1 << 2);
        for (int unit = 2; unit <= 9; unit++) {
            failedInInitial(unit).quiet(500, 0).repair(unit).cycle(Boiler.INITIAL).repaired(1 << unit).failed(0);
        }
        // It is good, so that it may fail anew, and is not acknowledged then.
        withFailed(5, "failing anew").quiet(500, 0).acknowledge(5).cycle(Boiler.DEGRADED)
                .quiet(500, 0).repair(5).cycle(Boiler.NORMAL)
                .readings(500, 0, 0b1000, 0).cycle(Boiler.DEGRADED).detected(1 << 5).failed(1 << 5).acknowledged(0)
                .quiet(500, 0).acknowledge(5).cycle(Boiler.DEGRADED).acknowledged(1 << 5);
    }

    private Boiler failedInInitial(int unit) {
        int on = unit < 6 ? 1 << unit - 2 : 0;
        int gives = unit < 6 ? 0 : 1 << unit - 6;
        return boiler("INITIAL, unit " + unit).readings(500, 0, on, gives).cycle(Boiler.INITIAL).failed(1 << unit);
    }

    private void repairsOfOthers() {
        for (int unit = 0; unit <= 9; unit++) {
            boiler("NORMAL, unit " + unit).started(500).quiet(500, 3).repair(unit).cycle(Boiler.STOPPED)
                    .toldNothing().steamFrom(0, 0);
            boiler("INITIAL, unit " + unit).quiet(500, 3).repair(unit).cycle(Boiler.INITIAL)
                    .toldNothing().steamFrom(3, 3);
        }
        withFailed(4, "DEGRADED, another").quiet(500, 0).repair(5).cycle(Boiler.STOPPED).failed(1 << 4);
        withFailed(0, "RESCUE, another").quiet(-1, 0).repair(1).cycle(Boiler.STOPPED).failed(Boiler.LEVEL);
        withFailed(4, "repaired already").quiet(500, 0).repair(4).cycle(Boiler.NORMAL)
                .quiet(500, 0).repair(4).cycle(Boiler.STOPPED);
        boiler("failing only in this cycle").started(500).quiet(-1, 0).repair(0).cycle(Boiler.STOPPED).failed(0);
        boiler("the cycle in which INITIAL ends").quiet(500, 0).say(Boiler.WAITING).say(Boiler.READY).repair(2)
                .cycle(Boiler.NORMAL).quiet(500, 0).repair(2).cycle(Boiler.STOPPED);
    }

    private void acknowledgements() {
        for (int unit = 0; unit <= 9; unit++) {
            int bit = 1 << unit;
            withFailed(unit, "acknowledged").quiet(500, 0).acknowledge(unit).cycle(modeWith(unit))
                    .acknowledged(bit).failed(bit).repaired(0).detected(0)
                    .quiet(500, 0).cycle(modeWith(unit)).acknowledged(bit);
        }
        for (int unit = 2; unit <= 9; unit++) {
            failedInInitial(unit).quiet(500, 0).acknowledge(unit).cycle(Boiler.INITIAL).acknowledged(1 << unit);
        }
        threeFailed("one behind the other").quiet(500, 0).acknowledge(5).cycle(Boiler.DEGRADED).acknowledged(0b100000)
                .quiet(500, 0).acknowledge(4).acknowledge(2).cycle(Boiler.DEGRADED).acknowledged(0b110100);
    }

    private void acknowledgementsOfOthers() {
        for (int unit = 0; unit <= 9; unit++) {
            int bit = 1 << unit;
            boiler("NORMAL, good unit " + unit).started(500).quiet(500, 3).acknowledge(unit).cycle(Boiler.STOPPED)
                    .toldNothing().steamFrom(0, 0).acknowledged(0);
            boiler("INITIAL, good unit " + unit).quiet(500, 3).acknowledge(unit).cycle(Boiler.INITIAL)
                    .toldNothing().steamFrom(3, 3).acknowledged(0);
            withFailed(unit, "acknowledged already").quiet(500, 0).acknowledge(unit).cycle(modeWith(unit))
                    .quiet(500, 0).acknowledge(unit).cycle(Boiler.STOPPED).acknowledged(bit).failed(bit);
        }
        for (int unit = 2; unit <= 9; unit++) {
            failedInInitial(unit).quiet(500, 0).acknowledge(unit).cycle(Boiler.INITIAL)
                    .quiet(500, 0).acknowledge(unit).cycle(Boiler.INITIAL).acknowledged(1 << unit).failed(1 << unit);
        }
        withFailed(4, "DEGRADED, another").quiet(500, 0).acknowledge(3).cycle(Boiler.STOPPED).acknowledged(0);
        withFailed(0, "RESCUE, another").quiet(-1, 0).acknowledge(1).cycle(Boiler.STOPPED).acknowledged(0);
        boiler("failing only in this cycle").started(500).quiet(-1, 0).acknowledge(0)
                .cycle(Boiler.STOPPED).detected(0).failed(0);
        boiler("the cycle in which INITIAL ends").quiet(500, 0).say(Boiler.WAITING).say(Boiler.READY).acknowledge(2)
                .cycle(Boiler.NORMAL).quiet(500, 0).acknowledge(2).cycle(Boiler.STOPPED);
    }

    /** Units are told of in falling order: what a wrong one in the middle stops shows the order they are taken in. */
    private void unitsInTheirOrder() {
        threeFailed("repairs").quiet(500, 0).repair(5).repair(4).repair(3).repair(2)
                .cycle(Boiler.STOPPED).repaired(1 << 2).failed(0b110000);
        threeFailed("acknowledgements").quiet(500, 0).acknowledge(5).acknowledge(4).acknowledge(3).acknowledge(2)
                .cycle(Boiler.STOPPED).acknowledged(1 << 2).failed(0b110100);
        threeFailed("the last one wrong").quiet(500, 0).repair(9).repair(5).repair(4).repair(2)
                .cycle(Boiler.STOPPED).repaired(0b110100).failed(0);
        threeFailed("the first one wrong").quiet(500, 0).repair(2).repair(4).repair(5).repair(0)
                .cycle(Boiler.STOPPED).repaired(0).failed(0b110100);
    }

    private void repairsFirst() {
        threeFailed("a wrong acknowledgement of an earlier unit").quiet(500, 0).acknowledge(0).repair(5)
                .cycle(Boiler.STOPPED).repaired(1 << 5).failed(0b010100);
        threeFailed("just repaired").quiet(500, 0).acknowledge(2).acknowledge(4).repair(4)
                .cycle(Boiler.STOPPED).repaired(1 << 4).acknowledged(1 << 2).failed(0b100100);
        threeFailed("another one").quiet(500, 0).acknowledge(2).repair(4)
                .cycle(Boiler.DEGRADED).repaired(1 << 4).acknowledged(1 << 2).failed(0b100100);
        failedInInitial(2).quiet(500, 0).acknowledge(2).repair(2).cycle(Boiler.INITIAL)
                .repaired(1 << 2).failed(0).acknowledged(0);
    }

    private void endsAtOnce() {
        threeFailed("in the repairs, no further repair").quiet(500, 0).repair(2).repair(3).repair(4)
                .cycle(Boiler.STOPPED).repaired(1 << 2).failed(0b110000);
        threeFailed("in the repairs, no acknowledgement").quiet(500, 0).repair(9).acknowledge(2)
                .cycle(Boiler.STOPPED).acknowledged(0).failed(0b110100);
        threeFailed("in the acknowledgements").quiet(500, 0).acknowledge(2).acknowledge(3).acknowledge(4)
                .cycle(Boiler.STOPPED).acknowledged(1 << 2).failed(0b110100);
        // In INITIAL a wrong one stops nothing, so the others are taken.
        boiler("INITIAL").readings(500, 0, 0b1101, 0).cycle(Boiler.INITIAL)
                .quiet(500, 0).repair(2).repair(3).repair(4).acknowledge(4).acknowledge(5)
                .cycle(Boiler.INITIAL).repaired(0b010100).failed(1 << 5).acknowledged(1 << 5);
    }
}
