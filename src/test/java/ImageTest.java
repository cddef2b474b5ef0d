/** Promises 38 and 39: IMAGES of all but LAWS, WAYS and the TAPE. */
public final class ImageTest {
    private static final Checks c = new Checks();

    public static void main(String[] args) {
        counts();
        everything();
        nested();
        c.finish();
    }

    private static void counts() {
        TankHulls x = new TankHulls();
        c.due("no image", -1, x.restore());
        c.due("one", 1, x.image());
        c.due("two", 2, x.image());
        c.due("three", 3, x.image());
        c.due("a fourth", -1, x.image());
        c.due("images", 3, x.count(8));
        c.due("two are left", 2, x.restore());
        c.due("one is left", 1, x.restore());
        c.due("another one", 2, x.image());
        c.due("one is left", 1, x.restore());
        c.due("none is left", 0, x.restore());
        c.due("no image", -1, x.restore());
    }

    private static void everything() {
        TankHulls x = new TankHulls();
        fill(x, 0);
        long[] before = look(x);
        c.due("image", 1, x.image());
        fill(x, 1);
        Checks.law(x, "eddy 5;");
        Checks.way(x, "add 5;");
        x.feed(1, 2, 3, 4, 5);
        Checks.law(x, "?");
        x.feed(1, 2, 3, 4, 5);
        long[] changed = look(x);
        int same = 0;
        for (int i = 0; i < before.length; i++) {
            same += before[i] == changed[i] ? 1 : 0;
        }
        c.due("all that is looked at had changed", 0, same);
        c.due("restore", 0, x.restore());
        long[] after = look(x);
        for (int i = 0; i < before.length; i++) {
            c.due("look " + i, before[i], after[i]);
        }
        c.due("laws stay", 1, x.count(2));
        c.due("ways stay", 1, x.count(3));
        c.due("the tape stays", 20, x.count(9));
        c.due("the fault stays", 0, x.fault());
        c.due("a hull after it", 1, x.hull(10, 2));
        c.due("is new", 1005, x.station(1, 0, 10, 5));
    }

    private static void fill(TankHulls x, int k) {
        x.hull(100 + k, 3);
        x.station(0, 1, 20 + k, 7 + k);
        x.tank(30 + k, 4);
        x.set(k, 3 + k, 5 + k, k);
        x.trim(k == 0, 9 + k);
        x.run(70 + k);
        x.earlier(1000, 900 + 200 * k);
        x.earlier(1000, 960 + 200 * k);
        x.earlier(1000, 970 + 200 * k);
        x.mile(500 + k, 0);
        x.mile(400 + k, 0);
        x.foul(5 + k, 40 + k);
        x.seed(99 + k);
    }

    private static long[] look(TankHulls x) {
        return new long[] {
            x.count(0), x.count(1), x.count(4), x.count(5), x.count(6), x.count(7), x.count(10),
            x.name(0), x.name(1), x.name(4), x.name(5), x.name(7), x.name(8), x.name(9),
            x.model(0, 1, 2), x.ratio(-1), x.mean(false), x.mean(true), x.grown(50), x.span(1000, true),
        };
    }

    private static void nested() {
        TankHulls x = new TankHulls();
        x.hull(100, 2);
        x.image();
        x.station(0, 0, 1, 1);
        x.run(5);
        x.image();
        x.station(0, 0, 2, 2);
        x.run(6);
        c.due("restore", 1, x.restore());
        c.due("the lines of the second", 101, x.station(0, 0, 3, 3));
        c.due("runs of the second", 1, x.count(4));
        c.due("a run after it", 1, x.run(9));
        c.due("restore", 0, x.restore());
        c.due("the lines of the first", 1005, x.station(0, 0, 3, 3));
        c.due("runs of the first", 0, x.count(4));
        c.throwsDue("runs of the first", Checks.ELEMENT, () -> x.ran(0, 6));
        TankHulls y = new TankHulls();
        y.image();
        y.hull(50, 2);
        y.tank(1, 1);
        y.set(0, 9, 9, 0);
        y.restore();
        c.throwsDue("no hull again", Checks.STATE, () -> y.name(0));
        y.hull(60, 2);
        c.due("scale at first", 60, y.name(0));
        c.throwsDue("no tank again", Checks.INDEX, () -> y.set(0, 1, 1, 0));
    }
}
