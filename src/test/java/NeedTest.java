/** Promises 13 to 15: what a SHIP will need by a WAY, how far that errs, which SCALE is best. */
public final class NeedTest {
    private static final Checks c = new Checks();

    public static void main(String[] args) {
        need();
        limits();
        error();
        size();
        hullAtHand();
        c.finish();
    }

    private static void need() {
        TankHulls x = new TankHulls();
        Checks.way(x, "off 10+speed+wire*100+side;add 1000*speed+months+wire*7+side*9;more 15;");
        c.throwsDue("no hull", Checks.STATE, () -> x.need(9, -1, 9));
        x.hull(100, 2);
        x.tank(10, 5);
        c.throwsDue("no such way before the pull", Checks.INDEX, () -> x.need(1, -1, 0));
        c.throwsDue("way -1", Checks.INDEX, () -> x.need(-1, 1, 0));
        c.throwsDue("pull -1", Checks.ARGUMENT, () -> x.need(0, -1, 0));
        c.throwsDue("pull 1,000,000,001", Checks.ARGUMENT, () -> x.need(0, 1000000001, 0));
        c.throwsDue("what 4", Checks.ARGUMENT, () -> x.need(0, 1, 4));
        c.throwsDue("what -1", Checks.ARGUMENT, () -> x.need(0, 1, -1));
        x.set(0, 2, 6, 0);
        x.trim(true, 3);
        // the model: section 50 * 2500 / 10,000 = 12, side 24; off 10 + 6 + 100 + 24
        c.due("rest", 500 - 140, x.need(0, 500, 0));
        c.due("grown", 360 * 8, x.need(0, 500, 1));
        c.due("the ship's speed: root of 72", 8, x.need(0, 500, 3));
        // the ship: months as they are, no wire, no sides
        c.due("need", 10883 + 10883 * 15 / 100, x.need(0, 500, 2));
        c.due("rest, 0 at least", 0, x.need(0, 139, 0));
        c.due("rest of no pull", 0, x.need(0, 0, 0));
        c.due("need of no rest", 8003 + 8003 * 15 / 100, x.need(0, 139, 2));
    }

    private static void limits() {
        TankHulls x = new TankHulls();
        x.hull(100, 2);
        x.law(0, true);
        Checks.way(x, "add 9999*9999*99;more 9999*9;");
        x.set(0, 40, 99, -1);
        c.due("the ship's speed, 99 at most", 99, x.need(0, 1, 3));
        Checks.way(x, "add length*10+fn;");
        c.due("the ship is at scale 1", 1000 + 9801, x.need(2, 0, 2));
        c.due("an empty way", 1000000000L * 64000, x.need(0, 1000000000, 2));
        c.due("the greatest need", (1000000000L * 64000 + 1000000000L) * 101, x.need(1, 1000000000, 2));
    }

    private static void error() {
        TankHulls x = new TankHulls();
        c.throwsDue("no hull", Checks.STATE, () -> x.error(0, 0, 0, 0));
        x.hull(100, 2);
        c.throwsDue("no law", Checks.INDEX, () -> x.error(0, 0, 0, 0));
        Checks.law(x, "eddy 100*speed+wire*7+months+side;");
        c.throwsDue("no way", Checks.INDEX, () -> x.error(0, 0, 0, 0));
        Checks.way(x, "off 50*speed;add 3*speed;more 10;");
        c.throwsDue("speed 0", Checks.ARGUMENT, () -> x.error(0, 0, 0, 1));
        c.throwsDue("speed 100", Checks.ARGUMENT, () -> x.error(0, 0, 100, 1));
        c.throwsDue("scale 0", Checks.ARGUMENT, () -> x.error(0, 0, 1, 0));
        c.throwsDue("scale 41", Checks.ARGUMENT, () -> x.error(0, 0, 1, 41));
        x.tank(5, 5);
        x.set(0, 7, 3, 0);
        x.trim(true, 9);
        // v 9 at scale 4: m 4, pull 400, rest 200, grown 12,800, ship's speed 8
        c.due("scale 4", 12824 + 1282 - 900, x.error(0, 0, 9, 4));
        // v 1 at scale 5: m is 1 at least, the ship's speed then 2
        c.due("m is 1 at least", 6250 + 6 + 625 - 100, x.error(0, 0, 1, 5));
        // scale 1: rest 450, add 27, more 47
        c.due("less than the ship's", 900 - 524, x.error(0, 0, 9, 1));
        c.due("the running stays", 7, x.set(0, 7, 3, 0));
        c.due("its wire stays", 1, x.name(7));
        Checks.law(x, "eddy 9999*9999*99;skin 9999*9999*99;");
        x.law(0, true);
        c.due("a model's pull counts 1,000,000,000 at most", 6000000000L, x.error(1, 1, 9, 2));
        Checks.law(x, "eddy length;");
        c.due("the ship's own pull is at scale 1", 50 * 8 - 100, x.error(2, 1, 9, 2));
    }

    private static void size() {
        TankHulls x = new TankHulls();
        c.throwsDue("no hull", Checks.STATE, () -> x.size(0, 0, 0, -1));
        x.hull(100, 2);
        c.throwsDue("no law", Checks.INDEX, () -> x.size(0, 0, 0, -1));
        Checks.law(x, "eddy 8;");
        Checks.law(x, "eddy 1;");
        Checks.law(x, "eddy 0;");
        c.throwsDue("no way", Checks.INDEX, () -> x.size(0, 0, 0, -1));
        x.law(0, true);
        c.throwsDue("speed 0", Checks.ARGUMENT, () -> x.size(0, 0, 0, 0));
        c.throwsDue("speed 100", Checks.ARGUMENT, () -> x.size(0, 0, 100, 0));
        c.throwsDue("coin -1", Checks.ARGUMENT, () -> x.size(0, 0, 9, -1));
        c.throwsDue("coin 10,000", Checks.ARGUMENT, () -> x.size(0, 0, 9, 10000));
        c.due("without a coin", 2, x.size(0, 0, 9, 0));
        c.due("by 10", 3, x.size(0, 0, 9, 10));
        // k cubed less 1, and 9,999 times 100 by k: the least is at 33 (35,936 + 29,997)
        c.due("by 9,999", best(100, 9999), x.size(1, 0, 9, 9999));
        c.due("of the same ones the least", 2, x.size(2, 0, 9, 0));
        c.due("the least speed", 2, x.size(2, 0, 1, 0));
        Checks.law(x, "eddy 1000 if length=100;eddy 100 if length=50;eddy 37 if length=33;");
        // the ship's 1,000: 800 at scale 2, 999 at 3, none behind
        c.due("the ship's own pull is at scale 1", 3, x.size(3, 0, 9, 0));
        TankHulls y = new TankHulls();
        y.hull(390, 2);
        y.law(0, false);
        y.law(0, true);
        c.due("40 is one of them", 40, y.size(0, 0, 9, 1));
        // lengths 3 from 26 to 33, 2 from 34 on
        c.due("of the same lengths the least", 34, x.size(2, 0, 9, 1));
    }

    /** Promises 14 and 15: "of the HULL at hand", whatever its number is. */
    private static void hullAtHand() {
        TankHulls x = new TankHulls();
        x.hull(100, 2);
        x.hull(10, 2);
        Checks.law(x, "eddy length;");
        x.law(0, false);
        x.law(0, true);
        c.due("ERROR of the first", 50 * 8 - 100, x.error(0, 0, 9, 2));
        c.due("BEST SCALE of the first: 2 long from 34 on", 34, x.size(1, 0, 9, 9999));
        x.set(1, 1, 1, -1);
        c.due("ERROR of the second", 5 * 8 - 10, x.error(0, 0, 9, 2));
        c.due("BEST SCALE of the second: 1 long from 6 on", 6, x.size(1, 0, 9, 9999));
    }

    private static int best(int length, int coin) {
        int best = 2;
        for (int k = 3; k <= 40; k++) {
            if (k * k * k + coin * (length / k) < best * best * best + coin * (length / best)) {
                best = k;
            }
        }
        return best;
    }
}
