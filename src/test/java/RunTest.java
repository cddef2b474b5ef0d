/** Promises 18 to 24: RUNS read and DRAWN, the SEED, the WIRE's part, LAWS that FIT, the TELLING speed. */
public final class RunTest {
    private static final Checks c = new Checks();

    public static void main(String[] args) {
        runs();
        drawn();
        drawnLimits();
        wire();
        fits();
        telling();
        tellingAtHand();
        c.finish();
    }

    private static void runs() {
        TankHulls x = new TankHulls();
        c.throwsDue("no hull", Checks.STATE, () -> x.run(-1));
        c.throwsDue("no run", Checks.ELEMENT, () -> x.ran(0, 9));
        x.hull(100, 2);
        x.hull(50, 2);
        x.tank(9, 9);
        c.throwsDue("pull -1", Checks.ARGUMENT, () -> x.run(-1));
        c.throwsDue("pull 1,000,000,001", Checks.ARGUMENT, () -> x.run(1000000001));
        x.set(1, 20, 33, 0);
        x.trim(true, 44);
        c.due("run", 0, x.run(1000000000));
        x.set(0, 1, 2, -1);
        x.trim(false, 0);
        c.due("run", 1, x.run(0));
        long[] first = {1, 20, 33, 0, 1, 44, 1000000000};
        long[] second = {0, 1, 2, -1, 0, 0, 0};
        for (int i = 0; i < 7; i++) {
            c.due("ran(0, " + i + ")", first[i], x.ran(0, i));
            c.due("ran(1, " + i + ")", second[i], x.ran(1, i));
        }
        c.throwsDue("run 2", Checks.ELEMENT, () -> x.ran(2, 0));
        c.throwsDue("run -1", Checks.ELEMENT, () -> x.ran(-1, 9));
        c.throwsDue("what 7", Checks.ARGUMENT, () -> x.ran(0, 7));
        c.throwsDue("what -1", Checks.ARGUMENT, () -> x.ran(0, -1));
        for (int i = 2; i < 60; i++) {
            c.due("run " + i, i, x.run(i));
        }
        c.due("a 61st run", -1, x.run(5));
        c.throwsDue("a wrong 61st run", Checks.ARGUMENT, () -> x.run(-1));
        Checks.law(x, "eddy 1;");
        c.due("a 61st tow", -1, x.tow(0, 5));
        c.due("the seed stays then", 1, x.count(10));
        c.due("the last run", 59, x.ran(59, 6));
    }

    private static void drawn() {
        TankHulls x = new TankHulls();
        c.throwsDue("no hull", Checks.STATE, () -> x.tow(0, 99));
        x.hull(100, 2);
        c.throwsDue("no law", Checks.INDEX, () -> x.tow(0, 99));
        Checks.law(x, "eddy 777+months;");
        c.throwsDue("spread 51", Checks.ARGUMENT, () -> x.tow(0, 51));
        c.throwsDue("spread -1", Checks.ARGUMENT, () -> x.tow(0, -1));
        c.due("the seed stays then", 1, x.count(10));
        x.trim(false, 23);
        int seed = 1;
        for (int spread = 0; spread <= 50; spread++) {
            seed = seed * 1103515245 + 12345;
            long draw = (seed >>> 16) % 32768 % (2 * spread + 1) - spread;
            c.due("tow " + spread, spread, x.tow(0, spread));
            c.due("its pull", 800 + 800 * draw / 100, x.ran(spread, 6));
            c.due("its months", 23, x.ran(spread, 5));
            c.due("the seed", seed, x.count(10));
        }
        Checks.law(x, "eddy 0;");
        x.tow(1, 50);
        c.due("nothing stays nothing", 0, x.ran(51, 6));
        seed = seed * 1103515245 + 12345;
        c.due("seed(5)", seed, x.seed(5));
        c.due("seed(-3)", 5, x.seed(-3));
        c.due("seed(0)", -3, x.seed(0));
    }

    private static void drawnLimits() {
        TankHulls x = new TankHulls();
        x.hull(100, 2);
        Checks.law(x, "skin 9999*9999*99;eddy 9999*9999*99;");
        c.due("tow", 0, x.tow(0, 0));
        c.due("1,000,000,000 at most", 1000000000, x.ran(0, 6));
        for (int i = 1; i < 20; i++) {
            int seed = x.count(10) * 1103515245 + 12345;
            long draw = (seed >>> 16) % 32768 % 101 - 50;
            x.tow(0, 50);
            c.due("never more", draw >= 0 ? 1000000000 : 1000000000 + 10000000 * draw, x.ran(i, 6));
        }
    }

    private static void wire() {
        TankHulls x = new TankHulls();
        c.throwsDue("no hull", Checks.STATE, () -> x.wire());
        x.hull(100, 2);
        x.hull(100, 2);
        x.tank(9, 9);
        c.due("no runs", 0, x.wire());
        x.set(0, 5, 6, -1);
        x.run(10);
        c.due("none with", 0, x.wire());
        x.set(0, 5, 6, 0);
        x.trim(true, 7);
        x.run(25);
        c.due("any tank, any months", 15, x.wire());
        x.trim(true, 0);
        x.run(4);
        c.due("of three", 29 - 20, x.wire());
        x.trim(false, 1);
        x.run(1000000000);
        c.due("of four", 2 * 29 - 2 * 1000000010L, x.wire());
        x.set(0, 5, 7, -1);
        c.due("another speed", 0, x.wire());
        x.run(3);
        x.set(0, 6, 6, -1);
        c.due("another scale", 0, x.wire());
        x.set(1, 5, 6, -1);
        c.due("another hull", 0, x.wire());
        x.trim(true, 0);
        x.run(9);
        c.due("none without", 0, x.wire());
    }

    private static void fits() {
        TankHulls x = new TankHulls();
        c.throwsDue("o -1", Checks.ARGUMENT, () -> x.fits(-1));
        c.throwsDue("o 100", Checks.ARGUMENT, () -> x.fits(100));
        c.due("no laws", 0, x.fits(0));
        Checks.law(x, "eddy 150;");
        Checks.law(x, "eddy 100+wire*20+months+side;");
        Checks.law(x, "eddy 0;");
        c.due("all fit without runs", 7, x.fits(0));
        x.hull(100, 2);
        x.tank(10, 10);
        x.set(0, 1, 1, 0);
        x.trim(true, 30);
        x.run(200);
        c.due("that one alone", 2, x.fits(0));
        c.due("50 is at most 33 hundredths of 150", 2, x.fits(32));
        c.due("49 is not 50", 2, x.fits(33));
        c.due("51 is", 3, x.fits(34));
        x.set(0, 1, 1, -1);
        x.trim(false, 0);
        x.run(99);
        c.due("both runs", 0, x.fits(0));
        c.due("one hundredth", 2, x.fits(1));
        c.due("by the runs' own months", 2, x.fits(33));
        c.due("51 of 150 on both sides", 3, x.fits(34));
        TankHulls y = new TankHulls();
        y.hull(100, 2);
        y.hull(60, 2);
        Checks.law(y, "eddy length*100+speed;");
        y.set(1, 3, 7, -1);
        y.run(2007);
        y.set(0, 1, 1, -1);
        c.due("by the runs' own hull, scale and speed", 1, y.fits(0));
        y.run(2007);
        c.due("not any more", 0, y.fits(0));
    }

    /** Promise 24: "of the HULL and SCALE at hand". */
    private static void tellingAtHand() {
        TankHulls x = new TankHulls();
        x.hull(100, 2);
        x.hull(60, 2);
        Checks.law(x, "eddy 5;");
        Checks.law(x, "eddy 5;eddy 6 if length=speed;");
        c.due("none is 100: the least speed", 1, x.telling(0));
        x.set(0, 2, 1, -1);
        c.due("50 at SCALE 2", 50, x.telling(0));
        x.set(1, 1, 1, -1);
        c.due("60 of the second HULL", 60, x.telling(0));
        x.set(1, 3, 1, -1);
        c.due("20 at SCALE 3", 20, x.telling(0));
    }

    private static void telling() {
        TankHulls x = new TankHulls();
        c.throwsDue("no hull", Checks.STATE, () -> x.telling(100));
        x.hull(100, 2);
        c.throwsDue("o 100", Checks.ARGUMENT, () -> x.telling(100));
        c.throwsDue("o -1", Checks.ARGUMENT, () -> x.telling(-1));
        c.due("no laws", -1, x.telling(0));
        Checks.law(x, "eddy 1000;");
        c.due("one law", -1, x.telling(0));
        Checks.law(x, "eddy 1000;");
        c.due("no difference: the least speed", 1, x.telling(0));
        Checks.law(x, "eddy 1000+most(0,least(speed,40)-20)+wire*50+months+side+100-length;");
        x.tank(3, 3);
        x.set(0, 1, 9, 0);
        x.trim(true, 50);
        c.due("the least of the greatest", 40, x.telling(0));
        x.run(1000);
        // the third law's PULL here is far from 1,000
        c.due("the third does not fit", 1, x.telling(0));
        Checks.law(x, "eddy 1000;eddy 1600-10*length if speed=33;eddy 1 if speed=44;eddy 0 if side>0;eddy 1000 if side>0;");
        c.due("fits", 11, x.fits(0));
        c.due("what differs most in open water", 44, x.telling(0));
        x.set(0, 10, 9, 0);
        // at scale 10 the length is 10: 1,500 at speed 33
        c.due("of the scale at hand", 44, x.telling(0));
        TankHulls y = new TankHulls();
        y.hull(100, 2);
        Checks.law(y, "eddy 500-speed;");
        Checks.law(y, "eddy 500;");
        Checks.law(y, "eddy 500;");
        c.due("99 is one of them, the first law too", 99, y.telling(0));
    }
}
