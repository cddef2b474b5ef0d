/** Promises 1 to 5, 9 to 11 and 40: a new object, HULLS, MODELS, TANKS, the RUNNING at hand, count. */
public final class HullTest {
    private static final Checks c = new Checks();

    public static void main(String[] args) {
        newObject();
        hulls();
        stations();
        models();
        tanks();
        running();
        names();
        counts();
        c.finish();
    }

    private static void newObject() {
        TankHulls x = new TankHulls();
        for (int what = 0; what < 10; what++) {
            c.due("new: count(" + what + ")", 0, x.count(what));
        }
        c.due("new: seed", 1, x.count(10));
        c.due("new: fault", -1, x.fault());
        c.due("NONE", -1, TankHulls.NONE);
        c.throwsDue("new: name(0)", Checks.STATE, () -> x.name(0));
        c.throwsDue("new: name(99)", Checks.STATE, () -> x.name(99));
        c.throwsDue("new: pull(0, 0)", Checks.STATE, () -> x.pull(0, 0));
    }

    private static void hulls() {
        TankHulls x = new TankHulls();
        c.throwsDue("hull(9, 2)", Checks.ARGUMENT, () -> x.hull(9, 2));
        c.throwsDue("hull(401, 2)", Checks.ARGUMENT, () -> x.hull(401, 2));
        c.throwsDue("hull(10, 1)", Checks.ARGUMENT, () -> x.hull(10, 1));
        c.throwsDue("hull(10, 13)", Checks.ARGUMENT, () -> x.hull(10, 13));
        c.due("hull(10, 2)", 0, x.hull(10, 2));
        c.due("hull(400, 12)", 1, x.hull(400, 12));
        for (int i = 2; i < 6; i++) {
            c.due("hull " + i, i, x.hull(100, 5));
        }
        c.due("a 7th hull", -1, x.hull(100, 5));
        c.throwsDue("a wrong 7th hull", Checks.ARGUMENT, () -> x.hull(0, 5));
        c.due("hulls", 6, x.count(0));
    }

    private static void stations() {
        TankHulls x = new TankHulls();
        c.throwsDue("station of no hull", Checks.ELEMENT, () -> x.station(0, 99, 99, 99));
        x.hull(100, 3);
        c.throwsDue("hull -1", Checks.ELEMENT, () -> x.station(-1, 0, 1, 1));
        c.throwsDue("station -1", Checks.ARGUMENT, () -> x.station(0, -1, 1, 1));
        c.throwsDue("station 3", Checks.ARGUMENT, () -> x.station(0, 3, 1, 1));
        c.throwsDue("beam 61", Checks.ARGUMENT, () -> x.station(0, 0, 61, 1));
        c.throwsDue("beam -1", Checks.ARGUMENT, () -> x.station(0, 0, -1, 1));
        c.throwsDue("draft 61", Checks.ARGUMENT, () -> x.station(0, 0, 1, 61));
        c.throwsDue("draft -1", Checks.ARGUMENT, () -> x.station(0, 0, 1, -1));
        c.due("first lines", 1005, x.station(0, 2, 60, 0));
        c.due("lines 60, 0", 6000, x.station(0, 2, 0, 60));
        c.due("lines 0, 60", 60, x.station(0, 2, 1, 1));
        c.due("the other one", 1005, x.station(0, 0, 1, 1));
    }

    private static void models() {
        TankHulls x = new TankHulls();
        c.throwsDue("model of no hull", Checks.ELEMENT, () -> x.model(0, 0, 9));
        x.hull(95, 3);
        x.station(0, 0, 12, 7);
        x.station(0, 1, 30, 4);
        x.station(0, 2, 9, 11);
        c.throwsDue("scale 0", Checks.ARGUMENT, () -> x.model(0, 0, 0));
        c.throwsDue("scale 41", Checks.ARGUMENT, () -> x.model(0, 41, 0));
        c.throwsDue("what -1", Checks.ARGUMENT, () -> x.model(0, 1, -1));
        c.throwsDue("what 6", Checks.ARGUMENT, () -> x.model(0, 1, 6));
        // sums: beam + twice draft 95, beam times draft 84 + 120 + 99 = 303
        long[] ship = {95, 9025L * 95 / 300, 857375L * 303 / 30000, 28, 10, 9025 * 120 / 10000};
        long[] fourth = {23, 529L * 95 / 300, 12167L * 303 / 30000, 6, 2, 529 * 120 / 10000};
        for (int what = 0; what < 6; what++) {
            c.due("ship's " + what, ship[what], x.model(0, 1, what));
            c.due("model's " + what, fourth[what], x.model(0, 4, what));
        }
        x.hull(10, 2);
        c.due("length 10 by 40", 1, x.model(1, 40, 0));
        c.due("length 10 by 10", 1, x.model(1, 10, 0));
        c.due("length 10 by 6", 1, x.model(1, 6, 0));
        c.due("length 10 by 5", 2, x.model(1, 5, 0));
        x.hull(400, 12);
        for (int i = 0; i < 12; i++) {
            x.station(2, i, 60, 60);
        }
        c.due("largest wet", 288000, x.model(2, 1, 1));
        c.due("largest volume", 23040000, x.model(2, 1, 2));
        c.due("largest section", 57600, x.model(2, 1, 5));
    }

    private static void tanks() {
        TankHulls x = new TankHulls();
        c.throwsDue("width 0", Checks.ARGUMENT, () -> x.tank(0, 1));
        c.throwsDue("width 201", Checks.ARGUMENT, () -> x.tank(201, 1));
        c.throwsDue("depth 0", Checks.ARGUMENT, () -> x.tank(1, 0));
        c.throwsDue("depth 201", Checks.ARGUMENT, () -> x.tank(1, 201));
        c.due("tank(1, 200)", 0, x.tank(1, 200));
        c.due("tank(200, 1)", 1, x.tank(200, 1));
        c.due("third tank", 2, x.tank(5, 5));
        c.due("fourth tank", 3, x.tank(5, 5));
        c.due("fifth tank", -1, x.tank(5, 5));
        c.throwsDue("wrong fifth tank", Checks.ARGUMENT, () -> x.tank(5, 0));
    }

    private static void running() {
        TankHulls x = new TankHulls();
        c.throwsDue("set without hulls", Checks.ELEMENT, () -> x.set(0, 0, 0, 9));
        c.due("trim without hulls", 0, x.trim(true, 99));
        c.throwsDue("months 100", Checks.ARGUMENT, () -> x.trim(false, 100));
        c.throwsDue("months -1", Checks.ARGUMENT, () -> x.trim(false, -1));
        c.due("months stay", 99, x.trim(false, 0));
        x.hull(100, 2);
        c.throwsDue("tank before scale", Checks.INDEX, () -> x.set(0, 0, 0, 0));
        c.throwsDue("tank -2", Checks.INDEX, () -> x.set(0, 1, 1, -2));
        c.throwsDue("scale 0", Checks.ARGUMENT, () -> x.set(0, 0, 1, -1));
        c.throwsDue("scale 41", Checks.ARGUMENT, () -> x.set(0, 41, 1, -1));
        c.throwsDue("speed 0", Checks.ARGUMENT, () -> x.set(0, 1, 0, -1));
        c.throwsDue("speed 100", Checks.ARGUMENT, () -> x.set(0, 1, 100, -1));
        c.due("scale at first", 1, x.set(0, 40, 99, -1));
        c.due("scale 40", 40, x.set(0, 1, 1, -1));
    }

    private static void names() {
        TankHulls x = new TankHulls();
        x.hull(95, 3);
        x.station(0, 1, 30, 4);
        x.tank(7, 3);
        c.due("scale at first", 95, x.name(0));
        c.due("speed at first", 1, x.name(1));
        c.due("open water at first", 0, x.name(8));
        c.due("no wire at first", 0, x.name(7));
        c.due("fn at first", 1, x.name(6));
        x.set(0, 2, 13, 0);
        x.trim(true, 42);
        // length 47; sums: 20 + 38 + 20 = 78 and 50 + 120 + 50 = 220
        long[] want = {47, 13, 2209L * 78 / 300, 103823L * 220 / 30000, 14, 2,
            100 * 169 / 47, 1, 100 * (2209 * 120 / 10000) / 21, 42};
        for (int i = 0; i < 10; i++) {
            c.due("name " + i, want[i], x.name(i));
        }
        c.throwsDue("name -1", Checks.ARGUMENT, () -> x.name(-1));
        c.throwsDue("name 10", Checks.ARGUMENT, () -> x.name(10));
        x.set(0, 2, 13, -1);
        c.due("side in open water", 0, x.name(8));
        c.due("months stay", 42, x.name(9));
        c.due("wire stays", 1, x.name(7));
    }

    private static void counts() {
        TankHulls x = new TankHulls();
        x.hull(100, 2);
        x.hull(100, 2);
        x.tank(1, 1);
        Checks.law(x, "skin 1;");
        Checks.law(x, "skin 2;");
        Checks.law(x, "skin 3;");
        Checks.way(x, "off 1;");
        x.run(1);
        x.run(2);
        x.run(3);
        x.run(4);
        for (int i = 1; i <= 5; i++) {
            x.earlier(1, 1);
        }
        for (int i = 1; i <= 6; i++) {
            x.mile(1, 1);
            x.foul(i, 1);
        }
        x.foul(7, 1);
        x.image();
        x.image();
        x.feed(0, 0, 0, 0, 0);
        x.seed(-77);
        long[] want = {2, 1, 3, 1, 4, 5, 6, 7, 2, 20, -77};
        for (int i = 0; i < want.length; i++) {
            c.due("count(" + i + ")", want[i], x.count(i));
        }
        c.due("count(-1)", -1, x.count(-1));
        c.due("count(11)", -1, x.count(11));
    }
}
