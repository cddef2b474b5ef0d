/** Promises 12 and 16, 17: PULL and its parts, what sides do, the least SCALE that keeps clear of them. */
public final class PullTest {
    private static final Checks c = new Checks();

    public static void main(String[] args) {
        parts();
        sides();
        sidesAtHand();
        widest();
        c.finish();
    }

    private static void parts() {
        TankHulls x = new TankHulls();
        Checks.law(x, "skin 155;foul months*7;wave 33;eddy 12;sides 15;");
        c.throwsDue("no hull", Checks.STATE, () -> x.pull(9, 9));
        x.hull(100, 2);
        c.throwsDue("no such law before what", Checks.INDEX, () -> x.pull(1, 9));
        c.throwsDue("law -1", Checks.INDEX, () -> x.pull(-1, 0));
        c.throwsDue("what 5", Checks.ARGUMENT, () -> x.pull(0, 5));
        c.throwsDue("what -1", Checks.ARGUMENT, () -> x.pull(0, -1));
        x.trim(false, 3);
        // skin 155 and 21 hundredths: 155 + 32; all 232; 15 hundredths of it 34
        c.due("skin", 187, x.pull(0, 1));
        c.due("wave", 33, x.pull(0, 2));
        c.due("eddy", 12, x.pull(0, 3));
        c.due("all", 232, x.pull(0, 4));
        c.due("pull", 266, x.pull(0, 0));
        c.due("an empty law", 1, x.law(0, false));
        c.due("pulls nothing", 0, x.pull(1, 0));
    }

    private static void sides() {
        TankHulls x = new TankHulls();
        Checks.law(x, "eddy 1000;sides side+wire+months;");
        Checks.law(x, "eddy 1000-side;");
        c.throwsDue("no hull", Checks.STATE, () -> x.sides(0));
        x.hull(100, 2);
        c.throwsDue("no such law", Checks.INDEX, () -> x.sides(2));
        x.tank(10, 10);
        c.due("in open water", 0, x.sides(0));
        x.set(0, 1, 5, 0);
        c.due("side 50", 500, x.sides(0));
        x.trim(true, 20);
        c.due("wire and months are the same without sides", 500, x.sides(0));
        c.due("less than in open water", -50, x.sides(1));
        x.set(0, 3, 5, 0);
        c.due("a third", 50, x.sides(0));
    }

    /** Promise 16: of the HULL, SCALE and speed at hand, in open water too. */
    private static void sidesAtHand() {
        TankHulls x = new TankHulls();
        x.hull(100, 2);
        x.hull(200, 2);
        x.tank(10, 10);
        Checks.law(x, "eddy length*1000+speed*100;eddy length*1000+speed*100+7 if side>0;");
        x.set(0, 2, 5, 0);
        c.due("at SCALE 2", 7, x.sides(0));
        x.set(1, 1, 9, 0);
        c.due("of the second HULL", 7, x.sides(0));
        x.set(1, 4, 9, 0);
        c.due("of its model", 7, x.sides(0));
        x.set(1, 40, 9, 0);
        c.due("side 0 is as open water", 0, x.sides(0));
    }

    private static void widest() {
        TankHulls x = new TankHulls();
        Checks.law(x, "eddy 1000;sides side+wire;");
        Checks.law(x, "eddy 99 if side=0;eddy 1000 if side>0;eddy 9999 if length<3;");
        Checks.law(x, "eddy 1000;sides 7 if speed=5;");
        Checks.law(x, "eddy side*100+most(0,7-length)*0+10*wire;");
        c.throwsDue("no hull", Checks.STATE, () -> x.widest(9, 100));
        x.hull(100, 2);
        c.throwsDue("no such law before o", Checks.INDEX, () -> x.widest(4, 100));
        c.throwsDue("o 100", Checks.ARGUMENT, () -> x.widest(0, 100));
        c.throwsDue("o -1", Checks.ARGUMENT, () -> x.widest(0, -1));
        x.tank(10, 10);
        c.due("open water", 1, x.widest(0, 0));
        x.set(0, 7, 5, 0);
        // sides by scale: 50, 12, 5 (of 1089 times 50 by 10,000), 3, 2, 1, 0
        c.due("o 99", 1, x.widest(0, 99));
        c.due("o 50", 1, x.widest(0, 50));
        c.due("o 49", 2, x.widest(0, 49));
        c.due("o 12", 2, x.widest(0, 12));
        c.due("o 11", 3, x.widest(0, 11));
        c.due("o 0", 7, x.widest(0, 0));
        c.due("the running stays", 7, x.set(0, 7, 5, 0));
        c.due("sides that open water has too", 1, x.widest(2, 0));
        x.tank(1, 1);
        x.set(0, 1, 5, 1);
        c.due("in a small tank", 7, x.widest(0, 0));
        TankHulls y = new TankHulls();
        y.hull(390, 2);
        y.station(0, 0, 60, 60);
        y.tank(1, 1);
        Checks.law(y, "eddy 100;sides side;");
        y.set(0, 1, 5, 0);
        c.due("no scale is enough", -1, y.widest(0, 99));
        Checks.law(y, "eddy 100+side*least(1,length-9);");
        c.due("40 is one of them", 40, y.widest(1, 0));
    }
}
