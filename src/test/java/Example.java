/** Fills the boiler, starts it, loses the level for a cycle, and has it again. */
public final class Example {
    public static void main(String[] args) {
        BoilerDesk desk = new BoilerDesk();
        desk.say(0);                // WAITING
        run(desk, 390, false);      // below N1: the pumps are turned on
        run(desk, 450, true);       // from N1 to N2: they are shut, and PROGRAM READY is told
        desk.say(1);                // READY
        run(desk, 450, false);
        run(desk, -1, false);       // no boiler has this level: the level is estimated from now on
        desk.unit(0, true);         // the level is repaired
        run(desk, 448, false);
    }

    /** One cycle: without a level, steam and all four pumps it would stop. */
    private static void run(BoilerDesk desk, int level, boolean pumpsOn) {
        desk.level(level);
        desk.steam(0);
        for (int pump = 0; pump < 4; pump++) {
            desk.pump(pump, pumpsOn, pumpsOn);
        }
        int mode = desk.cycle();
        System.out.println("mode " + mode + ", level " + desk.state(0) + " to " + desk.state(1)
                + ", pumps told " + desk.told(0) + ", detected " + desk.told(2) + ", ready " + desk.told(4));
    }
}
