/** Promise 3: a level is received; the latest one counts, for the next cycle alone. */
public final class Promise03LevelTest {
    public static void main(String[] args) {
        Checks checks = new Checks();
        Boiler latest = new Boiler(checks, "the latest level").quiet(123, 0);
        latest.desk.level(-5);
        latest.desk.level(456);
        latest.levelFrom(0, 1000).cycle(BoilerDesk.INITIAL).levelFrom(456, 456).failed(0);

        Boiler once = new Boiler(checks, "a level counts once").quiet(456, 0).cycle(BoilerDesk.INITIAL);
        once.desk.steam(0);
        for (int pump = 0; pump < 4; pump++) {
            once.desk.pump(pump, false, false);
        }
        once.cycle(BoilerDesk.STOPPED).levelFrom(456, 456);

        for (int wrong : new int[] {-1, 1001, Integer.MIN_VALUE, Integer.MAX_VALUE}) {
            new Boiler(checks, "level " + wrong).started(500).quiet(wrong, 0).cycle(BoilerDesk.RESCUE)
                    .detected(Boiler.LEVEL).levelFrom(495, 500);
        }

        Boiler stopped = new Boiler(checks, "a level while STOPPED").cycle(BoilerDesk.STOPPED);
        stopped.quiet(500, 0).cycle(BoilerDesk.STOPPED).levelFrom(0, 1000);
        checks.end();
    }
}
