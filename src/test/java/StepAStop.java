/** Terms 3 (a): STOP, and readings that are missing. */
final class StepAStop extends Group {
    StepAStop(Sentences sentences) {
        super(sentences);
    }

    @Override
    void run() {
        sentence("(a) STOP: if it was received in this and both cycles before: STOPPED.", this::threeStopsInARow);
        sentence("If a level, steam, or one of the eight of the pumps was not received: STOPPED.",
                this::missingReadings);
    }

    private void threeStopsInARow() {
        for (int mode : LIVE_MODES) {
            for (String goesOn : new String[] {"S", "SS", "SS-", "SS-S", "SS-SS", "S-SS", "S-S-S", "-SS", "S--SS"}) {
                sayStops(mode, goesOn, mode);
            }
            for (String stops : new String[] {"SSS", "-SSS", "S-SSS", "SS-SSS"}) {
                sayStops(mode, stops, Boiler.STOPPED);
            }
        }
        boiler("while the mode changes").quiet(500, 0).say(Boiler.STOP).cycle(Boiler.INITIAL)
                .quiet(500, 0).say(Boiler.STOP).say(Boiler.WAITING).say(Boiler.READY).cycle(Boiler.NORMAL)
                .quiet(500, 0).say(Boiler.STOP).cycle(Boiler.STOPPED);
    }

    /** A cycle for each sign, with STOP in those of an S; before the last one nothing stops. */
    private void sayStops(int mode, String signs, int modeBehindTheLast) {
        Boiler boiler = inMode(mode, signs);
        for (int k = 0; k < signs.length(); k++) {
            quietIn(mode, boiler);
            if (signs.charAt(k) == 'S') {
                boiler.say(Boiler.STOP);
            }
            boiler.cycle(k < signs.length() - 1 ? mode : modeBehindTheLast);
        }
    }

    /** pump() brings two of the eight at once. */
    private void missingReadings() {
        for (int mode : LIVE_MODES) {
            int level = mode == Boiler.RESCUE ? -1 : 500;
            inMode(mode, "none missing").quiet(level, 0).cycle(mode);
            inMode(mode, "all missing").cycle(Boiler.STOPPED);
            for (int call = 0; call < Boiler.READING_CALLS; call++) {
                inMode(mode, call + " missing").readingsBut(call, level, 0, 0, 0).cycle(Boiler.STOPPED).toldNothing();
                inMode(mode, call + " alone").reading(call, level, 0, 0, 0).cycle(Boiler.STOPPED).toldNothing();
            }
        }
    }
}
