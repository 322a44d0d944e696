/** Promise 4: steam is received; the latest one counts, for the next cycle alone. */
public final class Promise04SteamTest {
    public static void main(String[] args) {
        Checks checks = new Checks();
        Boiler latest = new Boiler(checks, "the latest steam").quiet(500, 50);
        latest.desk.steam(-5);
        latest.desk.steam(12);
        latest.steamFrom(0, 50).cycle(BoilerDesk.INITIAL).steamFrom(12, 12).failed(0);

        Boiler once = new Boiler(checks, "steam counts once").quiet(500, 12).cycle(BoilerDesk.INITIAL);
        once.desk.level(500);
        for (int pump = 0; pump < 4; pump++) {
            once.desk.pump(pump, false, false);
        }
        once.cycle(BoilerDesk.STOPPED).steamFrom(12, 12);

        for (int wrong : new int[] {-1, 51, Integer.MIN_VALUE, Integer.MAX_VALUE}) {
            new Boiler(checks, "steam " + wrong).started(500).quiet(500, wrong).cycle(BoilerDesk.DEGRADED)
                    .detected(Boiler.STEAM).steamFrom(0, 5);
        }

        Boiler stopped = new Boiler(checks, "steam while STOPPED").cycle(BoilerDesk.STOPPED);
        stopped.quiet(500, 7).cycle(BoilerDesk.STOPPED).steamFrom(0, 50);
        checks.end();
    }
}
