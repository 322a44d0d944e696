/** A controller of a steam boiler; README.md says how to use it. */
public final class BoilerDesk {
    public static final int INITIAL = 0, NORMAL = 1, DEGRADED = 2, RESCUE = 3, STOPPED = 4;

    private static final int PUMPS = 4;
    private static final int ALL_PUMPS = 15;

    private static final int UNITS = 10;
    private static final int LEVEL_UNIT = 0;
    private static final int STEAM_UNIT = 1;
    private static final int FIRST_PUMP_UNIT = 2;
    private static final int FIRST_TELLER_UNIT = 6;
    private static final int ALL_TELLER_UNITS = ALL_PUMPS << FIRST_TELLER_UNIT;

    private static final int MOST_CAPACITY = 1000000;
    private static final int MOST_RATE = 100000;
    private static final int MOST_CYCLES = 1000000;
    private static final int STOPS_IN_A_ROW = 3;

    private final Plant plant = new Plant();
    private final Inbox inbox = new Inbox();
    private final Units units = new Units();
    private final Machines machines = new Machines();
    private final Report report = new Report();
    private final Span levelEstimate = new Span();
    private final Span steamEstimate = new Span();
    private final Span levelExpected = new Span();
    private final Span steamExpected = new Span();
    private int mode;
    private int cycles;
    private int stopsInARow;
    private boolean hasWaited;

    public BoilerDesk() {
        plant.setLimits(1000, 100, 400, 600, 900);
        plant.setRates(50, 5, 5, 15);
        startAnew();
    }

    public void begin(int c, int m1, int n1, int n2, int m2, int w, int u1, int u2, int p)
            throws IllegalArgumentException {
        if (!limitsAreSound(c, m1, n1, n2, m2) || !ratesAreSound(w, u1, u2, p)) {
            throw new IllegalArgumentException("the constants are not within their bounds");
        }
        plant.setLimits(c, m1, n1, n2, m2);
        plant.setRates(w, u1, u2, p);
        startAnew();
    }

    public void level(int v) {
        inbox.hasLevel = true;
        inbox.level = v;
    }

    public void steam(int v) {
        inbox.hasSteam = true;
        inbox.steam = v;
    }

    public void pump(int pump, boolean on, boolean gives) throws IllegalArgumentException {
        if (pump < 0 || pump >= PUMPS) {
            throw new IllegalArgumentException("there is no such pump");
        }
        inbox.pumpsHeard = withBit(inbox.pumpsHeard, pump, true);
        inbox.pumpsSaidOn = withBit(inbox.pumpsSaidOn, pump, on);
        inbox.pumpsSaidGiving = withBit(inbox.pumpsSaidGiving, pump, gives);
    }

    public void say(int what) throws IllegalArgumentException {
        switch (what) {
            case 0: inbox.waiting = true; break;
            case 1: inbox.ready = true; break;
            case 2: inbox.stop = true; break;
            default: throw new IllegalArgumentException("there is no such message");
        }
    }

    public void unit(int unit, boolean repaired) throws IllegalArgumentException {
        if (unit < 0 || unit >= UNITS) {
            throw new IllegalArgumentException("there is no such unit");
        }
        if (repaired) {
            inbox.repairs = withBit(inbox.repairs, unit, true);
        } else {
            inbox.acknowledgements = withBit(inbox.acknowledgements, unit, true);
        }
    }

    public int cycle() throws IllegalStateException {
        if (cycles >= MOST_CYCLES) {
            throw new IllegalStateException("there were too many cycles");
        }
        cycles++;
        report.clear();
        if (mode != STOPPED) {
            runSteps();
        }
        inbox.clear();
        return mode;
    }

    public int told(int what) throws IllegalArgumentException {
        switch (what) {
            case 0: return report.pumpsTurnedOn | report.pumpsShut << PUMPS;
            case 1: return report.valveOpened ? 1 : report.valveShut ? 2 : 0;
            case 2: return report.detected;
            case 3: return report.repaired;
            case 4: return report.programReady ? 1 : 0;
            default: throw new IllegalArgumentException("nothing of that number is told");
        }
    }

    public int state(int what) throws IllegalArgumentException {
        switch (what) {
            case 0: return levelEstimate.from;
            case 1: return levelEstimate.to;
            case 2: return steamEstimate.from;
            case 3: return steamEstimate.to;
            case 4: return units.failed;
            case 5: return units.acknowledged;
            case 6: return machines.pumpsOn;
            case 7: return machines.valveOpen ? 1 : 0;
            case 8: return mode;
            case 9: return cycles;
            default: throw new IllegalArgumentException("the state has nothing of that number");
        }
    }

    private static boolean limitsAreSound(int c, int m1, int n1, int n2, int m2) {
        return 0 <= m1 && m1 < n1 && n1 < n2 && n2 < m2 && m2 <= c && c <= MOST_CAPACITY;
    }

    private static boolean ratesAreSound(int w, int u1, int u2, int p) {
        return isWithin(w, 0, MOST_RATE) && isWithin(u1, 0, MOST_RATE)
                && isWithin(u2, 0, MOST_RATE) && isWithin(p, 1, MOST_RATE);
    }

    private void startAnew() {
        mode = INITIAL;
        cycles = 0;
        stopsInARow = 0;
        hasWaited = false;
        inbox.clear();
        units.clear();
        machines.clear();
        report.clear();
        levelEstimate.put(0, plant.capacity);
        steamEstimate.put(0, plant.mostSteam);
    }

    private void runSteps() {
        // What a pump may have given depends on how the units stood before the repairs of this cycle.
        int failedBefore = units.failed;
        noteWords();
        if (stopsInARow >= STOPS_IN_A_ROW || !inbox.hasAllReadings()) {
            mode = STOPPED;
        }
        if (mode != STOPPED) {
            takeRepairs();
        }
        if (mode != STOPPED) {
            takeAcknowledgements();
        }
        if (mode != STOPPED) {
            expectReadings(failedBefore);
            detectFailures();
            estimate();
            mode = mode == INITIAL ? modeBehindInitial() : modeInOperation();
        }
        if (mode != STOPPED) {
            machines.remember(inbox.pumpsSaidGiving);
            giveCommands();
        }
    }

    private void noteWords() {
        stopsInARow = inbox.stop ? stopsInARow + 1 : 0;
        hasWaited = hasWaited || inbox.waiting;
    }

    private void takeRepairs() {
        for (int unit = 0; unit < UNITS && mode != STOPPED; unit++) {
            if (!hasBit(inbox.repairs, unit)) {
                continue;
            }
            if (units.hasFailed(unit)) {
                units.repair(unit);
                report.repaired = withBit(report.repaired, unit, true);
            } else {
                stopUnlessInitial();
            }
        }
    }

    private void takeAcknowledgements() {
        for (int unit = 0; unit < UNITS && mode != STOPPED; unit++) {
            if (!hasBit(inbox.acknowledgements, unit)) {
                continue;
            }
            if (units.awaitsAcknowledgement(unit)) {
                units.acknowledge(unit);
            } else {
                stopUnlessInitial();
            }
        }
    }

    private void stopUnlessInitial() {
        if (mode != INITIAL) {
            mode = STOPPED;
        }
    }

    /**
     * In INITIAL every reading that the plant can have is taken as expected,
     * so that detecting and estimating are the same in all modes.
     */
    private void expectReadings(int failedBefore) {
        if (mode == INITIAL) {
            steamExpected.put(0, plant.mostSteam);
            levelExpected.put(0, plant.capacity);
            return;
        }
        steamExpected.put(
                Math.max(steamEstimate.from - plant.steamFall, 0),
                Math.min(steamEstimate.to + plant.steamRise, plant.mostSteam));
        int mostSteam = Math.max(steamEstimate.to, steamExpected.to);
        int leastSteam = Math.min(steamEstimate.from, steamExpected.from);
        int pumpsSurelyGiving = machines.pumpsSurelyGiving(failedBefore);
        int pumpsMaybeGiving = ALL_PUMPS & ~machines.pumpsSurelyIdle(failedBefore);
        levelExpected.put(
                plant.withinCapacity(levelEstimate.from - mostSteam + plant.given(pumpsSurelyGiving)),
                plant.withinCapacity(levelEstimate.to - leastSteam + plant.given(pumpsMaybeGiving)));
    }

    private void detectFailures() {
        if (!levelExpected.holds(inbox.level)) {
            detect(LEVEL_UNIT);
        }
        if (!steamExpected.holds(inbox.steam)) {
            detect(STEAM_UNIT);
        }
        for (int pump = 0; pump < PUMPS; pump++) {
            if (hasBit(inbox.pumpsSaidOn, pump) != hasBit(machines.pumpsOn, pump)) {
                detect(FIRST_PUMP_UNIT + pump);
            }
        }
        for (int pump = 0; pump < PUMPS; pump++) {
            if (!units.hasFailed(FIRST_PUMP_UNIT + pump) && isToldWrongly(pump)) {
                detect(FIRST_TELLER_UNIT + pump);
            }
        }
    }

    /** A pump that was turned on only in the cycle before may give already or not yet. */
    private boolean isToldWrongly(int pump) {
        return hasBit(inbox.pumpsSaidGiving, pump)
                ? !hasBit(machines.pumpsOn, pump)
                : hasBit(machines.pumpsOn & machines.pumpsOnBefore, pump);
    }

    private void detect(int unit) {
        if (!units.hasFailed(unit)) {
            units.fail(unit);
            report.detected = withBit(report.detected, unit, true);
        }
    }

    private void estimate() {
        if (units.hasFailed(LEVEL_UNIT)) {
            levelEstimate.put(levelExpected.from, levelExpected.to);
        } else {
            levelEstimate.put(inbox.level, inbox.level);
        }
        if (units.hasFailed(STEAM_UNIT)) {
            steamEstimate.put(steamExpected.from, steamExpected.to);
        } else {
            steamEstimate.put(inbox.steam, inbox.steam);
        }
    }

    private int modeBehindInitial() {
        if (units.hasFailed(LEVEL_UNIT) || units.hasFailed(STEAM_UNIT)) {
            return STOPPED;
        }
        if (hasWaited && inbox.steam != 0) {
            return STOPPED;
        }
        if (!inbox.ready) {
            return INITIAL;
        }
        return hasWaited && plant.isNormalLevel(inbox.level) ? modeByAnyFailure() : STOPPED;
    }

    private int modeInOperation() {
        if (levelEstimate.from <= plant.lowLimit || levelEstimate.to >= plant.highLimit) {
            return STOPPED;
        }
        if (!units.hasFailed(LEVEL_UNIT)) {
            return modeByAnyFailure();
        }
        // Without the level, steam and what the pumps give are all that the estimate rests on.
        boolean estimateIsBlind = units.hasFailed(STEAM_UNIT) || (units.failed & ALL_TELLER_UNITS) != 0;
        return estimateIsBlind ? STOPPED : RESCUE;
    }

    private int modeByAnyFailure() {
        return units.failed == 0 ? NORMAL : DEGRADED;
    }

    private void giveCommands() {
        if (mode != INITIAL) {
            commandInOperation();
        } else if (hasWaited) {
            commandInInitial();
        }
    }

    private void commandInInitial() {
        commandValve(inbox.level > plant.normalTo);
        if (inbox.level < plant.normalFrom) {
            turnOnGoodPumps();
        } else {
            commandPumps(0);
        }
        report.programReady = plant.isNormalLevel(inbox.level);
    }

    private void commandInOperation() {
        commandValve(false);
        int mayLack = plant.normalFrom - levelEstimate.from;
        int mayExceed = levelEstimate.to - plant.normalTo;
        if (mayLack > 0 && mayLack > mayExceed) {
            turnOnGoodPumps();
        } else if (mayExceed > 0) {
            commandPumps(0);
        }
    }

    private void turnOnGoodPumps() {
        int goodPumps = ALL_PUMPS & ~(units.failed >> FIRST_PUMP_UNIT);
        commandPumps(machines.pumpsOn | goodPumps);
    }

    private void commandPumps(int wantedOn) {
        report.pumpsTurnedOn = wantedOn & ~machines.pumpsOn;
        report.pumpsShut = machines.pumpsOn & ~wantedOn;
        machines.pumpsOn = wantedOn;
    }

    private void commandValve(boolean wantedOpen) {
        report.valveOpened = wantedOpen && !machines.valveOpen;
        report.valveShut = machines.valveOpen && !wantedOpen;
        machines.valveOpen = wantedOpen;
    }

    private static boolean isWithin(int value, int from, int to) {
        return from <= value && value <= to;
    }

    private static boolean hasBit(int bits, int place) {
        return (bits >> place & 1) != 0;
    }

    private static int withBit(int bits, int place, boolean value) {
        return value ? bits | 1 << place : bits & ~(1 << place);
    }

    /** A least and a greatest value, both of them possible. */
    private static final class Span {
        int from;
        int to;

        void put(int newFrom, int newTo) {
            from = newFrom;
            to = newTo;
        }

        boolean holds(int value) {
            return isWithin(value, from, to);
        }
    }

    /** The CONSTANTS. */
    private static final class Plant {
        int capacity;
        int lowLimit;
        int normalFrom;
        int normalTo;
        int highLimit;
        int mostSteam;
        int steamRise;
        int steamFall;
        int pumpRate;

        void setLimits(int c, int m1, int n1, int n2, int m2) {
            capacity = c;
            lowLimit = m1;
            normalFrom = n1;
            normalTo = n2;
            highLimit = m2;
        }

        void setRates(int w, int u1, int u2, int p) {
            mostSteam = w;
            steamRise = u1;
            steamFall = u2;
            pumpRate = p;
        }

        boolean isNormalLevel(int value) {
            return isWithin(value, normalFrom, normalTo);
        }

        int withinCapacity(int value) {
            return Math.max(0, Math.min(value, capacity));
        }

        int given(int pumps) {
            return Integer.bitCount(pumps) * pumpRate;
        }
    }

    /** What was received for the next cycle; sets of pumps and units are held bit by bit. */
    private static final class Inbox {
        boolean hasLevel;
        int level;
        boolean hasSteam;
        int steam;
        int pumpsHeard;
        int pumpsSaidOn;
        int pumpsSaidGiving;
        boolean waiting;
        boolean ready;
        boolean stop;
        int repairs;
        int acknowledgements;

        boolean hasAllReadings() {
            return hasLevel && hasSteam && pumpsHeard == ALL_PUMPS;
        }

        void clear() {
            hasLevel = false;
            level = 0;
            hasSteam = false;
            steam = 0;
            pumpsHeard = 0;
            pumpsSaidOn = 0;
            pumpsSaidGiving = 0;
            waiting = false;
            ready = false;
            stop = false;
            repairs = 0;
            acknowledgements = 0;
        }
    }

    /** Which units have failed, and of which of them that was acknowledged, bit by bit. */
    private static final class Units {
        int failed;
        int acknowledged;

        boolean hasFailed(int unit) {
            return hasBit(failed, unit);
        }

        boolean awaitsAcknowledgement(int unit) {
            return hasBit(failed & ~acknowledged, unit);
        }

        void fail(int unit) {
            failed = withBit(failed, unit, true);
        }

        void acknowledge(int unit) {
            acknowledged = withBit(acknowledged, unit, true);
        }

        void repair(int unit) {
            failed = withBit(failed, unit, false);
            acknowledged = withBit(acknowledged, unit, false);
        }

        void clear() {
            failed = 0;
            acknowledged = 0;
        }
    }

    /** The pumps, bit by bit, and the valve, as they were told to be. */
    private static final class Machines {
        int pumpsOn;
        int pumpsOnBefore;
        int pumpsSaidGivingBefore;
        boolean valveOpen;

        /** Before the commands of a cycle: how the pumps stood while it was run. */
        void remember(int pumpsSaidGiving) {
            pumpsOnBefore = pumpsOn;
            pumpsSaidGivingBefore = pumpsSaidGiving;
        }

        int pumpsSurelyGiving(int failedUnits) {
            return trusted(failedUnits) & pumpsOn & pumpsOnBefore & pumpsSaidGivingBefore;
        }

        int pumpsSurelyIdle(int failedUnits) {
            return trusted(failedUnits) & ~pumpsOn;
        }

        private static int trusted(int failedUnits) {
            return ALL_PUMPS & ~(failedUnits >> FIRST_PUMP_UNIT) & ~(failedUnits >> FIRST_TELLER_UNIT);
        }

        void clear() {
            pumpsOn = 0;
            pumpsOnBefore = 0;
            pumpsSaidGivingBefore = 0;
            valveOpen = false;
        }
    }

    /** What is told of the latest cycle. */
    private static final class Report {
        int pumpsTurnedOn;
        int pumpsShut;
        boolean valveOpened;
        boolean valveShut;
        int detected;
        int repaired;
        boolean programReady;

        void clear() {
            pumpsTurnedOn = 0;
            pumpsShut = 0;
            valveOpened = false;
            valveShut = false;
            detected = 0;
            repaired = 0;
            programReady = false;
        }
    }
}
