/** Terms 3, the sentences before (a): what holds for a CYCLE as a whole. */
final class Terms3Cycle extends Group {
    Terms3Cycle(Sentences sentences) {
        super(sentences);
    }

    @Override
    void run() {
        sentence("3 A CYCLE, in this order.", this::order);
        sentence("STOPPED (before it): nothing changes any more, but that it is counted.", this::staysStopped);
        sentence("As soon as it is STOPPED in it the CYCLE ends", this::endsAtOnce);
        sentence("(what was found in it before stays told).", this::staysTold);
        sentence("What was received is forgotten behind it.", this::forgetsWhatWasReceived);
    }

    private void order() {
        withFailed(3, "(a) before (b)").repair(3).cycle(Boiler.STOPPED).repaired(0).failed(1 << 3);
        withFailed(3, "(b) before (d)").readings(500, 0, 0b0010, 0).repair(3).cycle(Boiler.DEGRADED)
                .repaired(1 << 3).detected(1 << 3).failed(1 << 3).acknowledged(0);
        boiler("(b) before (d), the other way").started(500).readings(500, 0, 0b0010, 0).acknowledge(3)
                .cycle(Boiler.STOPPED).detected(0).failed(0);
        boiler("(c) before (e)").started(500).quiet(500, 5).cycle(Boiler.NORMAL).quiet(-1, 9).cycle(Boiler.RESCUE)
                .levelFrom(490, 500).steamFrom(9, 9);
        boiler("(d) before (e)").started(500).quiet(501, 0).cycle(Boiler.RESCUE).levelFrom(495, 500);
        boiler("(d) before (f)").started(500).quiet(500, 6).cycle(Boiler.DEGRADED);
        boiler("(e) before (f)").begin(1000, 399, 400, 600, 900, 50, 5, 5, 15).started(400).quiet(399, 0)
                .cycle(Boiler.STOPPED).failed(0);
        boiler("(e) before (g)").started(400).quiet(399, 0).cycle(Boiler.NORMAL).commands(15, 0);
        boiler("(f) before (g)").quiet(399, 0).say(Boiler.WAITING).say(Boiler.READY).cycle(Boiler.STOPPED)
                .commands(0, 0).pumpsOn(0);
        boiler("(b) before (g)").started(400).readings(400, 0, 0b0001, 0).cycle(Boiler.DEGRADED)
                .quiet(399, 0).repair(2).cycle(Boiler.NORMAL).commands(15, 0);
    }

    private void staysStopped() {
        Boiler boiler = boiler("pumps on, a unit failed").startedPumping(300, 400);
        boiler.readings(400, 2, Boiler.ALL, 0b0111).cycle(Boiler.DEGRADED).failed(Boiler.teller(3));
        boiler.readings(450, 3, Boiler.ALL, Boiler.ALL).acknowledge(9).cycle(Boiler.DEGRADED);
        boiler.readings(500, 3, Boiler.ALL, Boiler.ALL).acknowledge(9).cycle(Boiler.STOPPED);
        for (int cycles = 6; cycles <= 9; cycles++) {
            boiler.readings(700, 4, Boiler.NONE, Boiler.ALL).repair(9).say(Boiler.READY).cycle(Boiler.STOPPED);
            boiler.states(450, 450, 3, 3, 1 << 9, 1 << 9, 15, 0, Boiler.STOPPED, cycles).toldNothing();
        }
        boiler.cycle(Boiler.STOPPED).states(450, 450, 3, 3, 1 << 9, 1 << 9, 15, 0, Boiler.STOPPED, 10).toldNothing();
        Boiler open = boiler("valve open").quiet(700, 0).say(Boiler.WAITING).cycle(Boiler.INITIAL);
        open.cycle(Boiler.STOPPED).state(9, 2).quiet(500, 0).cycle(Boiler.STOPPED).state(7, 1).state(9, 3);
    }

    /** Nothing of the steps behind the one that stops is done: what was received would be seen in every one of them. */
    private void endsAtOnce() {
        Boiler stop = withFailed(3, "in (a) by STOP");
        stop.quiet(500, 1).say(Boiler.STOP).cycle(Boiler.DEGRADED);
        stop.quiet(500, 2).say(Boiler.STOP).cycle(Boiler.DEGRADED);
        stop.readings(-1, -1, Boiler.ALL, Boiler.ALL).say(Boiler.STOP).repair(3).cycle(Boiler.STOPPED);
        stop.toldNothing().states(500, 500, 2, 2, 1 << 3, 0, 0, 0, Boiler.STOPPED, 5);
        withFailed(3, "in (a) by a missing reading").readingsBut(2, 490, 3, 0b1000, 0).acknowledge(3)
                .cycle(Boiler.STOPPED).toldNothing().states(500, 500, 0, 0, 1 << 3, 0, 0, 0, Boiler.STOPPED, 3);
        withFailed(3, "in (b) by a repair").readings(490, 3, 0b1000, 0).repair(9).acknowledge(3)
                .cycle(Boiler.STOPPED).toldNothing().states(500, 500, 0, 0, 1 << 3, 0, 0, 0, Boiler.STOPPED, 3);
        withFailed(3, "in (b) by an acknowledgement").readings(490, 3, 0b1000, 0).acknowledge(9)
                .cycle(Boiler.STOPPED).toldNothing().states(500, 500, 0, 0, 1 << 3, 0, 0, 0, Boiler.STOPPED, 3);
        boiler("in (f) of INITIAL").quiet(300, 1).say(Boiler.WAITING).cycle(Boiler.STOPPED)
                .toldNothing().states(300, 300, 1, 1, 0, 0, 0, 0, Boiler.STOPPED, 1);
        boiler("in (f) of the others").started(400).quiet(-1, 6).cycle(Boiler.STOPPED)
                .tells(0, 0, 3, 0, 0).states(395, 400, 0, 5, 3, 0, 0, 0, Boiler.STOPPED, 2);
    }

    private void staysTold() {
        boiler("DETECTED").started(500).readings(-1, -1, Boiler.ALL, Boiler.ALL).cycle(Boiler.STOPPED)
                .tells(0, 0, 0b111111, 0, 0).failed(0b111111)
                .quiet(500, 0).cycle(Boiler.STOPPED).toldNothing().failed(0b111111);
        boiler("DETECTED in INITIAL").readings(1001, 0, 0b0001, 0b0010).cycle(Boiler.STOPPED)
                .tells(0, 0, 1 | 1 << 2 | 1 << 7, 0, 0);
        withFailed(4, "REPAIRED, stopped in (b)").quiet(500, 0).repair(4).repair(5).cycle(Boiler.STOPPED)
                .tells(0, 0, 0, 1 << 4, 0).failed(0);
        withFailed(1, "REPAIRED and DETECTED, stopped in (f)").quiet(-1, -1).repair(1).cycle(Boiler.STOPPED)
                .tells(0, 0, 3, 2, 0).failed(3);
    }

    private void forgetsWhatWasReceived() {
        for (int call = 0; call < Boiler.READING_CALLS; call++) {
            boiler("reading " + call).quiet(456, 7).cycle(Boiler.INITIAL).readingsBut(call, 456, 7, 0, 0)
                    .cycle(Boiler.STOPPED).levelFrom(456, 456).steamFrom(7, 7);
        }
        boiler("STOP").quiet(500, 0).say(Boiler.STOP).cycle(Boiler.INITIAL).quiet(500, 0).cycle(Boiler.INITIAL)
                .quiet(500, 0).cycle(Boiler.INITIAL);
        // Remembered, a repair or an acknowledgement would be one of others in the next cycle, and stop it.
        withFailed(4, "a repair").quiet(500, 0).repair(4).cycle(Boiler.NORMAL)
                .quiet(500, 0).cycle(Boiler.NORMAL).repaired(0);
        withFailed(4, "an acknowledgement").quiet(500, 0).acknowledge(4).cycle(Boiler.DEGRADED)
                .quiet(500, 0).cycle(Boiler.DEGRADED).acknowledged(1 << 4);
        // In INITIAL a repair of a good unit is overlooked, and does not wait for its failure.
        boiler("an overlooked repair").quiet(500, 0).repair(2).acknowledge(3).cycle(Boiler.INITIAL)
                .readings(500, 0, 0b0011, 0).cycle(Boiler.INITIAL).quiet(500, 0).cycle(Boiler.INITIAL)
                .failed(0b1100).acknowledged(0).repaired(0);
    }
}
