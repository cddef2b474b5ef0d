/**
 * What earlier calls left must not count in later ones: IMAGES that take things away (38, 39), "no WIRE, 0
 * months" of ERROR and TELLING, texts behind longer ones, LAWS behind other LAWS.
 */
public final class LeftoversTest {
    private static final Checks c = new Checks();

    public static void main(String[] args) {
        tanksThatWere();
        foulingThatWas();
        mileThatWas();
        shipsThatWere();
        runsThatWere();
        hullsThatWere();
        runningThatWas();
        imageIsACopy();
        textsThatWere();
        textsToTheLastByte();
        lawsThatTold();
        calmAfterSides();
        calmAfterFits();
        shipsRunning();
        betterOfAnother();
        c.finish();
    }

    private static void tanksThatWere() {
        TankHulls x = new TankHulls();
        x.hull(100, 2);
        x.tank(10, 10);
        x.image();
        x.tank(10, 1);
        x.tank(1, 1);
        x.restore();
        c.due("the second TANK again", 1, x.tank(5, 20));
        x.set(0, 1, 1, 1);
        c.due("its side", 50, x.name(8));
        x.image();
        x.set(0, 1, 1, 0);
        c.due("the first one's side", 50, x.name(8));
        TankHulls y = new TankHulls();
        y.image();
        y.tank(200, 200);
        y.restore();
        y.tank(2, 5);
        y.hull(100, 2);
        y.set(0, 1, 1, 0);
        c.due("the side of the TANK that is", 500, y.name(8));
    }

    private static void foulingThatWas() {
        TankHulls x = new TankHulls();
        x.image();
        x.foul(10, 50);
        x.foul(20, 60);
        x.restore();
        c.due("0 without", 0, x.grown(5));
        c.due("0 without", 0, x.grown(999));
        c.due("a first row", 1, x.foul(3, 70));
        c.due("its own", 70, x.grown(999));
        x.image();
        x.foul(13, 80);
        x.restore();
        c.due("the last row is the first", 70, x.grown(13));
        c.due("months that rise again", 2, x.foul(4, 90));
        c.due("behind the last", 90, x.grown(5));
    }

    private static void mileThatWas() {
        TankHulls x = new TankHulls();
        x.mile(100, 0);
        x.image();
        x.mile(200, 0);
        x.mile(300, 0);
        x.restore();
        c.due("one run is left", Integer.MIN_VALUE, x.mean(false));
        c.due("the second again", 2, x.mile(7, 0));
        c.due("MEAN", 107, x.mean(false));
        x.image();
        x.anew();
        c.due("begun anew", Integer.MIN_VALUE, x.mean(true));
        x.restore();
        c.due("as in the IMAGE", 93, x.mean(true));
    }

    private static void shipsThatWere() {
        TankHulls x = new TankHulls();
        x.earlier(1000, 900);
        x.image();
        x.earlier(1000, 100);
        x.earlier(1000, 200);
        c.due("MIDDLE of three", 200, x.ratio(-1));
        x.restore();
        c.due("MIDDLE of one", 900, x.ratio(-1));
        c.throwsDue("the second is gone", Checks.ELEMENT, () -> x.ratio(1));
        c.due("SPAN of one", 900, x.span(1000, false));
        c.due("ODDS of one", 1, x.odds(1000, 900));
    }

    private static void runsThatWere() {
        TankHulls x = new TankHulls();
        x.hull(100, 2);
        Checks.law(x, "eddy 5;");
        x.run(5);
        x.image();
        x.trim(true, 0);
        x.run(9);
        c.due("the WIRE's part", 4, x.wire());
        c.due("the LAW does not FIT", 0, x.fits(0));
        x.restore();
        c.due("none with it any more", 0, x.wire());
        c.due("the LAW FITS again", 1, x.fits(0));
        c.due("the second RUN again", 1, x.run(6));
        c.due("without the WIRE", 0, x.ran(1, 4));
    }

    private static void hullsThatWere() {
        TankHulls x = new TankHulls();
        x.hull(100, 2);
        x.image();
        x.station(0, 1, 60, 60);
        x.hull(300, 12);
        x.station(1, 11, 50, 50);
        x.restore();
        c.due("the first one's lines", 1005, x.station(0, 1, 10, 5));
        c.throwsDue("the second is gone", Checks.ELEMENT, () -> x.model(1, 1, 0));
        c.due("another second one", 1, x.hull(50, 12));
        c.due("its length", 50, x.model(1, 1, 0));
        c.due("its lines are new", 1005, x.station(1, 11, 10, 5));
        TankHulls y = new TankHulls();
        y.image();
        y.hull(100, 12);
        y.restore();
        y.hull(100, 2);
        c.throwsDue("two STATIONS alone", Checks.ARGUMENT, () -> y.station(0, 2, 1, 1));
    }

    /** "the RUNNING at hand" and the SEED; LAWS, WAYS and the TAPE are in no IMAGE. */
    private static void runningThatWas() {
        TankHulls x = Rig.whole();
        String before = Rig.look(x);
        x.set(1, 40, 99, -1);
        x.trim(false, 99);
        x.seed(-5);
        x.tow(0, 50);
        c.due("restore", 0, x.restore());
        x.image();
        c.same("as in the IMAGE", before, Rig.look(x));
        x.feed(0, 0, 0, 0, 0);
        c.due("restore", 0, x.restore());
        c.due("bytes of the TAPE stay", 40, x.count(9));
        c.due("the LAW stays", 1, x.count(2));
        c.due("the WAY stays", 1, x.count(3));
    }

    /** What is done after image() is not in it. */
    private static void imageIsACopy() {
        TankHulls x = Rig.whole();
        x.image();
        String before = Rig.look(x);
        x.lines(0, 20);
        x.anew();
        x.foul(30, 1);
        x.earlier(1, 1);
        x.run(1);
        x.tank(1, 1);
        x.hull(10, 2);
        x.restore();
        x.image();
        c.same("as in the IMAGE", before, Rig.look(x));
    }

    /** The letters and digits of a longer text are no part of a shorter one behind it. */
    private static void textsThatWere() {
        TankHulls x = new TankHulls();
        Checks.law(x, "skin speedspeedspeed");
        c.due("a name that ends the text", -9, Checks.law(x, "skin speed"));
        c.due("at the length", 10, x.fault());
        Checks.law(x, "skinskinskin");
        c.due("a word that ends the text", -9, Checks.law(x, "skin"));
        c.due("at the length", 4, x.fault());
        Checks.law(x, "skin 99999999999");
        c.due("an N that ends the text", -9, Checks.law(x, "skin 9999"));
        c.due("at the length", 9, x.fault());
        Checks.law(x, "skin 1                       x");
        c.due("blanks that end the text", -9, Checks.law(x, "skin 1     "));
        c.due("at the length", 11, x.fault());
        Checks.law(x, "skin ((((((((");
        c.due("what was open is not", 0, Checks.law(x, "skin ((((((1))))));"));
        Checks.law(x, "skin 1 if [not [not (");
        c.due("what was open is not", 1, Checks.law(x, "skin 1 if [[[[[[1=1]]]]]];"));
        Checks.law(x, "eddy 1;".repeat(17));
        c.due("CLAUSES that were do not count", 2, Checks.law(x, "eddy 1;".repeat(16)));
    }

    /** Words, N and blanks that reach the last of 400 bytes. */
    private static void textsToTheLastByte() {
        String[] ends = {"skin", "skin speed", "skin 1", "skin 1 if", "skin 1 "};
        for (String end : ends) {
            TankHulls x = new TankHulls();
            c.due("'" + end + "' at 400", -9, Checks.law(x, " ".repeat(400 - end.length()) + end));
            c.due("its place", 400, x.fault());
        }
        TankHulls x = new TankHulls();
        c.due("no word at 400", -9, Checks.law(x, " ".repeat(397) + "ski"));
        c.due("its place", 397, x.fault());
        c.due("a large N at 400", -8, Checks.law(x, " ".repeat(390) + "skin 10000"));
        c.due("its place", 395, x.fault());
    }

    /** "0 without": what another LAW told is not told by this one. */
    private static void lawsThatTold() {
        TankHulls x = new TankHulls();
        x.hull(100, 2);
        Checks.law(x, "skin 100;wave 100;eddy 100;sides 100;foul 100;");
        Checks.law(x, "eddy 7;");
        Checks.law(x, "eddy 8 if 1=2;");
        c.due("the first", 800, x.pull(0, 0));
        c.due("the second", 7, x.pull(1, 0));
        c.due("the third", 0, x.pull(2, 0));
        Checks.way(x, "off 5;add 100;more 100;");
        Checks.way(x, "off 1;");
        c.due("the first WAY", 2 * (5 + 100), x.need(0, 10, 2));
        c.due("the second", 9, x.need(1, 10, 2));
    }

    private static final String BARE = "eddy 100+5000*wire+3000*months+side*2000;";

    private static TankHulls dressed() {
        TankHulls x = new TankHulls();
        x.hull(100, 2);
        x.tank(10, 10);
        Checks.law(x, BARE);
        Checks.law(x, BARE + "eddy 100+speed if wire=0 and months=0 and side=0 and speed<51;");
        Checks.way(x, "off 1000*wire+1000*months+side*1000;add speed+5000*wire+3000*months;more wire+months;");
        x.set(0, 1, 9, 0);
        x.trim(true, 50);
        return x;
    }

    private static void isCalm(String after, TankHulls x) {
        // 100 times 8 and the speed 8 of the SHIP, less 100
        c.due("ERROR " + after, 800 + 8 - 100, x.error(0, 0, 9, 2));
        // 100 times the cube of 8 and 9,999 times 12 are 171,188; at 7 174,286, at 9 182,889
        c.due("BEST SCALE " + after, 8, x.size(0, 0, 9, 9999));
        // only without WIRE, months and TANK do the LAWS differ, by the speed up to 50
        c.due("TELLING " + after, 50, x.telling(0));
    }

    /** "(open water, no WIRE, 0 months)", though the calls ahead were in a TANK, with a WIRE, months old. */
    private static void calmAfterSides() {
        TankHulls x = dressed();
        isCalm("at first", x);
        x.sides(0);
        isCalm("after sides", x);
        x.widest(0, 0);
        isCalm("after widest", x);
        x.better(0, 0);
        isCalm("after better", x);
        x.pull(0, 0);
        isCalm("after pull", x);
    }

    private static void calmAfterFits() {
        TankHulls x = dressed();
        // side 50: both LAWS pull 100 + 5,000 + 150,000 + 100,000
        x.run(255100);
        c.due("both FIT", 3, x.fits(0));
        isCalm("after fits", x);
        c.due("the WIRE at hand stays", 1, x.name(7));
        c.due("the months at hand stay", 50, x.name(9));
    }

    /** "the same HULL at SCALE 1 .. in open water, no WIRE, the same months". */
    private static void shipsRunning() {
        TankHulls x = new TankHulls();
        x.hull(100, 2);
        x.hull(200, 2);
        x.tank(10, 10);
        Checks.way(x, "add length;");
        Checks.way(x, "add 1000*wire+side*100+months;");
        Checks.way(x, "off 10*wire+months+side*100;");
        x.set(1, 4, 9, 0);
        x.trim(true, 7);
        c.due("the same HULL at SCALE 1", 200, x.need(0, 0, 2));
        c.due("open water, no WIRE, the same months", 7, x.need(1, 0, 2));
        // the model is 50 long: section 12, side 12
        c.due("off is of the RUNNING at hand", 2000 - 10 - 7 - 1200, x.need(2, 2000, 0));
    }

    private static void betterOfAnother() {
        TankHulls x = new TankHulls();
        x.hull(100, 3);
        Checks.law(x, "eddy 100-draft;");
        Checks.law(x, "eddy 5;");
        c.due("BETTER", 1, x.better(0, 0));
        for (int what = -1; what <= 2; what++) {
            c.due("none by the other LAW", -1, x.better(1, what));
        }
        c.due("no lines by it", 0, x.lines(1, 20));
        c.due("the lines stay", 1005, x.station(0, 0, 10, 5));
    }
}
