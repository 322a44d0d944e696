import java.util.ArrayList;
import java.util.List;
import java.util.function.Consumer;

/** Terms 2: RECEIVING. */
final class Terms2Receiving extends Group {
    Terms2Receiving(Sentences sentences) {
        super(sentences);
    }

    @Override
    void run() {
        sentence("2 RECEIVING, for the next cycle: a level, steam, of each pump whether it is on, of each pump whether "
                + "it gives, WAITING, READY, STOP, repairs and acknowledgements of UNITS.", this::countsInTheNextCycle);
        sentence("Of each kind the latest one counts;", this::latestCounts);
        sentence("a repair of a UNIT and an acknowledgement of it are kinds of their own.", this::kindsOfTheirOwn);
        sentence("(Also while STOPPED;", this::receivesWhileStopped);
        sentence("a call that throws changes nothing,", this::throwingChangesNothing);
        sentence("begin() forgets all.)", this::beginForgetsAll);
    }

    private void countsInTheNextCycle() {
        Boiler readings = boiler("readings").readings(321, 12, 0b0001, 0b0010).asNew();
        readings.cycle(Boiler.INITIAL).levelFrom(321, 321).steamFrom(12, 12)
                .failed(Boiler.pumpUnit(0) | Boiler.teller(1));
        Boiler words = boiler("words").quiet(500, 0).say(Boiler.WAITING).asNew().cycle(Boiler.INITIAL).told(4, 1);
        words.quiet(500, 0).say(Boiler.READY).state(8, Boiler.INITIAL).cycle(Boiler.NORMAL);
        words.quiet(500, 0).say(Boiler.STOP).cycle(Boiler.NORMAL).quiet(500, 0).say(Boiler.STOP).cycle(Boiler.NORMAL);
        words.quiet(500, 0).say(Boiler.STOP).state(8, Boiler.NORMAL).cycle(Boiler.STOPPED);
        for (int unit = 0; unit <= 9; unit++) {
            int bit = 1 << unit;
            Boiler boiler = withFailed(unit, "both kinds").quiet(500, 0).acknowledge(unit).acknowledged(0);
            boiler.cycle(boiler.desk.state(8)).acknowledged(bit);
            boiler.quiet(500, 0).repair(unit).failed(bit).acknowledged(bit).repaired(0);
            boiler.cycle(Boiler.NORMAL).failed(0).acknowledged(0).repaired(bit);
        }
    }

    private void latestCounts() {
        Boiler level = boiler("level").quiet(123, 0);
        level.desk.level(-5);
        level.desk.level(456);
        level.cycle(Boiler.INITIAL).levelFrom(456, 456).failed(0);
        boiler("level, wrong at last").quiet(500, 0).reading(0, -1, 0, 0, 0).cycle(Boiler.STOPPED).failed(Boiler.LEVEL);
        Boiler steam = boiler("steam").quiet(500, 50);
        steam.desk.steam(-5);
        steam.desk.steam(12);
        steam.cycle(Boiler.INITIAL).steamFrom(12, 12).failed(0);
        boiler("steam, wrong at last").quiet(500, 0).reading(1, 0, -1, 0, 0).cycle(Boiler.STOPPED).failed(Boiler.STEAM);
        latestOfEachPumpCounts();
        saidOftenIsSaidOnce();
    }

    private void latestOfEachPumpCounts() {
        for (int pump = 0; pump < 4; pump++) {
            int bit = 1 << pump;
            boiler("on, then not " + pump).readings(500, 0, bit, 0).reading(2 + pump, 0, 0, 0, 0)
                    .cycle(Boiler.INITIAL).failed(0);
            boiler("not on, then on " + pump).quiet(500, 0).reading(2 + pump, 0, 0, bit, 0)
                    .cycle(Boiler.INITIAL).failed(Boiler.pumpUnit(pump));
            boiler("gives, then not " + pump).readings(500, 0, 0, bit).reading(2 + pump, 0, 0, 0, 0)
                    .cycle(Boiler.INITIAL).failed(0);
            boiler("does not give, then gives " + pump).quiet(500, 0).reading(2 + pump, 0, 0, 0, bit)
                    .cycle(Boiler.INITIAL).failed(Boiler.teller(pump));
        }
        // The latest of one pump is not that of another.
        boiler("pump 0 twice, pump 3 not at all").readingsBut(5, 500, 0, 0, 0).reading(2, 0, 0, 0, 0)
                .cycle(Boiler.STOPPED);
    }

    private void saidOftenIsSaidOnce() {
        boiler("WAITING twice").quiet(500, 0).say(Boiler.WAITING).say(Boiler.WAITING).cycle(Boiler.INITIAL).told(4, 1);
        boiler("READY twice").quiet(500, 0).say(Boiler.READY).say(Boiler.WAITING).say(Boiler.READY)
                .cycle(Boiler.NORMAL);
        Boiler stop = boiler("STOP three times in one cycle").quiet(500, 0);
        stop.say(Boiler.STOP).say(Boiler.STOP).say(Boiler.STOP).cycle(Boiler.INITIAL);
        stop.quiet(500, 0).say(Boiler.STOP).cycle(Boiler.INITIAL).quiet(500, 0).say(Boiler.STOP).cycle(Boiler.STOPPED);
        for (int unit = 0; unit <= 9; unit++) {
            int bit = 1 << unit;
            // A second repair, or acknowledgement, would be one of others.
            withFailed(unit, "repair twice").quiet(500, 0).repair(unit).repair(unit).cycle(Boiler.NORMAL)
                    .repaired(bit).failed(0);
            withFailed(unit, "acknowledgement twice").quiet(500, 0).acknowledge(unit).acknowledge(unit)
                    .cycle(unit == 0 ? Boiler.RESCUE : Boiler.DEGRADED).acknowledged(bit).failed(bit);
        }
    }

    /** Neither replaces the other: the repair is done first, so that the acknowledgement is a wrong one. */
    private void kindsOfTheirOwn() {
        for (int unit = 0; unit <= 9; unit++) {
            withFailed(unit, "repair, acknowledgement").quiet(500, 0).repair(unit).acknowledge(unit)
                    .cycle(Boiler.STOPPED).repaired(1 << unit).failed(0);
            withFailed(unit, "acknowledgement, repair").quiet(500, 0).acknowledge(unit).repair(unit)
                    .cycle(Boiler.STOPPED).repaired(1 << unit).failed(0);
        }
        boiler("of two units").started(500).readings(500, 0, 0b0101, 0).cycle(Boiler.DEGRADED)
                .quiet(500, 0).repair(2).acknowledge(4).cycle(Boiler.DEGRADED)
                .repaired(1 << 2).failed(1 << 4).acknowledged(1 << 4);
    }

    private static Boiler receiveAllKinds(Boiler boiler) {
        boiler.readings(500, 7, Boiler.ALL, Boiler.ALL);
        for (int word = 0; word <= 2; word++) {
            boiler.say(word);
        }
        for (int unit = 0; unit <= 9; unit++) {
            boiler.repair(unit).acknowledge(unit);
        }
        return boiler;
    }

    private void receivesWhileStopped() {
        Boiler boiler = receiveAllKinds(boiler("all kinds").cycle(Boiler.STOPPED));
        boiler.states(0, 1000, 0, 50, 0, 0, 0, 0, Boiler.STOPPED, 1).toldNothing();
        boiler.cycle(Boiler.STOPPED).states(0, 1000, 0, 50, 0, 0, 0, 0, Boiler.STOPPED, 2).toldNothing();
        for (Consumer<Boiler> wrong : refusedCalls()) {
            illegalArgument("refused while STOPPED, too", () -> wrong.accept(boiler));
        }
        receiveAllKinds(boiler).begin(CONSTANTS_OF_A_NEW_OBJECT).asNew().cycle(Boiler.STOPPED);
        // With steam WAITING would stop it, and so would READY without WAITING.
        receiveAllKinds(boiler).begin(CONSTANTS_OF_A_NEW_OBJECT).quiet(500, 7).cycle(Boiler.INITIAL).toldNothing();
    }

    private static List<Consumer<Boiler>> refusedCalls() {
        List<Consumer<Boiler>> calls = new ArrayList<>();
        for (int far : new int[] {Integer.MIN_VALUE, -1, 32, Integer.MAX_VALUE}) {
            calls.add(boiler -> boiler.desk.pump(far, true, true));
            calls.add(boiler -> boiler.say(far));
            calls.add(boiler -> boiler.repair(far));
            calls.add(boiler -> boiler.acknowledge(far));
            calls.add(boiler -> boiler.desk.told(far));
            calls.add(boiler -> boiler.desk.state(far));
        }
        calls.add(boiler -> boiler.desk.pump(4, true, true));
        calls.add(boiler -> boiler.say(3));
        calls.add(boiler -> boiler.repair(10));
        calls.add(boiler -> boiler.acknowledge(10));
        calls.add(boiler -> boiler.desk.told(5));
        calls.add(boiler -> boiler.desk.state(10));
        for (int place = 0; place < CONSTANTS_OF_A_NEW_OBJECT.length; place++) {
            // All the others differ from those of a new object, so that taking one of them would be seen.
            int[] k = {2000, 200, 500, 700, 1500, 90, 7, 3, 21};
            k[place] = -1;
            calls.add(boiler -> boiler.begin(k));
        }
        return calls;
    }

    /** A twin that never made the refused call answers the same, at once and in the cycles behind it. */
    private void throwingChangesNothing() {
        for (Consumer<Boiler> refused : refusedCalls()) {
            for (Consumer<Boiler> history : histories()) {
                Boiler boiler = boiler("with a refused call");
                Boiler twin = boiler("twin");
                history.accept(boiler);
                history.accept(twin);
                illegalArgument("a refused call", () -> refused.accept(boiler));
                boiler.like(twin);
                goOnAlike(boiler, twin);
            }
        }
    }

    private static void goOnAlike(Boiler boiler, Boiler twin) {
        boiler.cycle(twin.desk.cycle()).like(twin);
        for (int cycle = 0; cycle < 3; cycle++) {
            boiler.readings(450, 3, Boiler.ALL, Boiler.ALL);
            twin.readings(450, 3, Boiler.ALL, Boiler.ALL);
            boiler.cycle(twin.desk.cycle()).like(twin);
        }
    }

    private static List<Consumer<Boiler>> histories() {
        List<Consumer<Boiler>> histories = new ArrayList<>();
        histories.add(boiler -> { });
        histories.add(boiler -> boiler.quiet(500, 0));
        histories.add(boiler -> boiler.readingsBut(4, 500, 0, 0, 0));
        histories.add(boiler -> boiler.quiet(300, 0).say(Boiler.WAITING));
        histories.add(boiler -> boiler.quiet(500, 0).say(Boiler.WAITING).say(Boiler.READY).say(Boiler.STOP));
        histories.add(boiler -> boiler.quiet(700, 0).say(Boiler.WAITING).cycle(Boiler.INITIAL).quiet(500, 0));
        histories.add(boiler -> boiler.quiet(500, 0).say(Boiler.STOP).cycle(Boiler.INITIAL)
                .quiet(500, 0).say(Boiler.STOP).cycle(Boiler.INITIAL));
        histories.add(boiler -> boiler.readings(500, 9, 0b0101, 0b1010).cycle(Boiler.INITIAL)
                .quiet(500, 0).acknowledge(2).repair(7).cycle(Boiler.INITIAL).quiet(500, 0).repair(2).acknowledge(9));
        histories.add(boiler -> boiler.startedPumping(300, 400).readings(-1, 3, Boiler.ALL, Boiler.ALL)
                .cycle(Boiler.RESCUE).readings(-1, 3, Boiler.ALL, Boiler.ALL).acknowledge(0));
        histories.add(boiler -> boiler.startedPumping(300, 600).readings(620, 2, Boiler.ALL, Boiler.ALL)
                .cycle(Boiler.NORMAL).commands(0, 15).quiet(615, 2));
        histories.add(boiler -> boiler.started(500).quiet(500, 3).cycle(Boiler.NORMAL).cycle(Boiler.STOPPED));
        histories.add(boiler -> receiveAllKinds(boiler.quiet(500, 3).cycle(Boiler.INITIAL).cycle(Boiler.STOPPED)));
        return histories;
    }

    /** Begun anew with the constants of a new object it answers as a new object does, whatever was before. */
    private void beginForgetsAll() {
        for (Consumer<Boiler> before : histories()) {
            for (Consumer<Boiler> behind : histories()) {
                Boiler begun = boiler("begun anew");
                Boiler fresh = boiler("new");
                before.accept(begun);
                begun.begin(CONSTANTS_OF_A_NEW_OBJECT).asNew();
                behind.accept(begun);
                behind.accept(fresh);
                begun.like(fresh);
                goOnAlike(begun, fresh);
            }
        }
        // Two STOPs, WAITING, and a whole set of readings were received before.
        Boiler boiler = boiler("step by step").quiet(500, 0).say(Boiler.STOP).say(Boiler.WAITING).cycle(Boiler.INITIAL);
        boiler.quiet(500, 0).say(Boiler.STOP).cycle(Boiler.INITIAL).quiet(300, 7);
        boiler.begin(CONSTANTS_OF_A_NEW_OBJECT).quiet(300, 7).say(Boiler.STOP).cycle(Boiler.INITIAL).toldNothing();
        boiler.quiet(300, 7).begin(CONSTANTS_OF_A_NEW_OBJECT).cycle(Boiler.STOPPED);
    }
}
