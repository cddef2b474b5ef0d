/** Objects that stand ready to be called, and all that can be seen of one. */
final class Rig {
    private Rig() { }

    /** Two HULLS, a TANK, a LAW, a WAY, 20 bytes, two RUNS, three ships, two runs of a MILE, two rows, an IMAGE. */
    static TankHulls whole() {
        TankHulls x = hullless();
        x.hull(100, 3);
        x.hull(60, 2);
        x.station(0, 1, 20, 8);
        x.set(0, 2, 5, 0);
        x.trim(true, 7);
        x.run(50);
        x.run(60);
        x.earlier(1000, 900);
        x.earlier(1000, 1010);
        x.earlier(1000, 1700);
        x.mile(100, 10);
        x.mile(90, -10);
        x.foul(10, 20);
        x.foul(20, 40);
        x.seed(5);
        x.image();
        return x;
    }

    /** No HULL, but a LAW, a WAY, a TANK and 20 bytes on the TAPE. */
    static TankHulls hullless() {
        TankHulls x = new TankHulls();
        x.tank(10, 10);
        Checks.law(x, "skin wet;wave speed;eddy beam*9;sides side;foul months;");
        Checks.way(x, "off 1;add 2;more 3;");
        x.feed(0x65646479, 0x20313B20, 0x20202020, 0x20202020, 0x20202020);
        return x;
    }

    /** What calls that change nothing answer; lines are read by changing them and back. Some 120 calls. */
    static String look(TankHulls x) {
        StringBuilder seen = new StringBuilder();
        for (int what = 0; what <= 10; what++) {
            put(seen, "count", x.count(what));
        }
        put(seen, "fault", x.fault());
        put(seen, "mean", x.mean(false));
        put(seen, "tide", x.mean(true));
        put(seen, "strange", x.strange(0));
        for (int months : new int[] {0, 13, 999}) {
            put(seen, "grown", x.grown(months));
        }
        lookAtEnds(seen, x);
        for (int hull = 0; hull < x.count(0); hull++) {
            lookAtLines(seen, x, hull);
        }
        if (x.count(0) > 0) {
            lookAtRunning(seen, x);
        }
        return seen.toString();
    }

    private static void put(StringBuilder seen, String name, long value) {
        seen.append(name).append(' ').append(value).append('\n');
    }

    private static void lookAtEnds(StringBuilder seen, TankHulls x) {
        int ships = x.count(5);
        for (int k = -1; ships > 0 && k < ships; k += k < 1 ? 1 : Math.max(1, ships - 1 - k)) {
            put(seen, "ratio " + k, x.ratio(k));
        }
        int runs = x.count(4);
        for (int what = 0; runs > 0 && what < 7; what++) {
            put(seen, "first run", x.ran(0, what));
            put(seen, "last run", x.ran(runs - 1, what));
        }
    }

    private static void lookAtLines(StringBuilder seen, TankHulls x, int hull) {
        put(seen, "length", x.model(hull, 1, 0));
        for (int station = 0; station < 12; station++) {
            int had;
            try {
                had = x.station(hull, station, 0, 0);
            } catch (IllegalArgumentException e) {
                put(seen, "stations", station);
                return;
            }
            x.station(hull, station, had / 100, had % 100);
            put(seen, "lines", had);
        }
    }

    private static void lookAtRunning(StringBuilder seen, TankHulls x) {
        for (int which = 0; which < 10; which++) {
            put(seen, "name", x.name(which));
        }
        for (int law = 0; law < x.count(2); law++) {
            put(seen, "pull", x.pull(law, 0));
        }
        for (int way = 0; way < x.count(3); way++) {
            put(seen, "need", x.need(way, 1000, 2));
        }
    }
}
