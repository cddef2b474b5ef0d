/**
 * Every "there are ..", "at most" of things kept, and every "there is none", "without", "fewer than": the last
 * that finds room and the first that does not, which does nothing; and what is answered of nothing at all.
 */
public final class FullTest {
    private static final Checks c = new Checks();

    public static void main(String[] args) {
        hulls();
        tanks();
        bytes();
        laws();
        ways();
        runs();
        ships();
        mile();
        fouling();
        images();
        wrongCallsOfFullOnes();
        roomAgain();
        noImage();
        noLaws();
        noRuns();
        noShips();
        noMile();
        noFouling();
        emptyTexts();
        c.finish();
    }

    /** All that an object can keep, but for IMAGES and the TAPE. */
    static TankHulls full() {
        TankHulls x = new TankHulls();
        for (int i = 0; i < 6; i++) {
            x.hull(100, 12);
        }
        for (int i = 0; i < 4; i++) {
            x.tank(10 + i, 10);
            Checks.law(x, "eddy " + i + ";");
        }
        for (int i = 0; i < 3; i++) {
            Checks.way(x, "add " + i + ";");
        }
        for (int i = 0; i < 60; i++) {
            x.run(i);
        }
        for (int i = 0; i < 20; i++) {
            x.earlier(1000, 1000 + i);
        }
        for (int i = 1; i <= 8; i++) {
            x.foul(i, i);
            x.mile(i, 0);
        }
        return x;
    }

    /** Promise 2: "its number; -1: there are 6". */
    private static void hulls() {
        TankHulls x = new TankHulls();
        for (int i = 0; i < 6; i++) {
            c.due("HULL " + i, i, x.hull(10 + i, 2));
        }
        c.none("a 7th HULL", x, () -> x.hull(50, 5));
        c.due("HULLS", 6, x.count(0));
        c.due("the last one's length", 15, x.model(5, 1, 0));
    }

    /** Promise 5: "its number; -1: there are 4". */
    private static void tanks() {
        TankHulls x = new TankHulls();
        x.hull(100, 2);
        for (int i = 0; i < 4; i++) {
            c.due("TANK " + i, i, x.tank(i + 1, 1));
        }
        x.set(0, 1, 1, 3);
        c.none("a 5th TANK", x, () -> x.tank(1, 1));
        c.due("TANKS", 4, x.count(1));
        c.due("the last one's side", 100 * 50 / 4, x.name(8));
        c.throwsDue("TANK 4", Checks.INDEX, () -> x.set(0, 1, 1, 4));
    }

    /** Promise 6: "NONE, doing nothing, if there would be more than 400". */
    private static void bytes() {
        TankHulls x = new TankHulls();
        x.hull(100, 2);
        x.feed(0x65646479, 0x20372020, 0x20202020, 0x20202020, 0x20202020);
        for (int i = 2; i < 20; i++) {
            c.due("feed " + i, 20 * i, blanks(x));
        }
        c.due("380 bytes", 380, x.count(9));
        c.due("the last that come on the TAPE", 400, x.feed(0x20202020, 0x20202020, 0x20202020, 0x20202020, 0x2020203B));
        c.none("more than 400", x, () -> x.feed(0x3B3B3B3B, 0x3B3B3B3B, 0x3B3B3B3B, 0x3B3B3B3B, 0x3B3B3B3B));
        c.due("all 400 are a LAW", 0, x.law(400, false));
        c.due("its eddy", 7, x.pull(0, 3));
        c.due("the TAPE is empty then", 0, x.count(9));
        c.due("and is fed again", 20, blanks(x));
    }

    private static int blanks(TankHulls x) {
        return x.feed(0x20202020, 0x20202020, 0x20202020, 0x20202020, 0x20202020);
    }

    /** Promise 7: "-1: there are 4"; promise 8: no FAULT then. */
    private static void laws() {
        TankHulls x = new TankHulls();
        x.hull(100, 2);
        for (int i = 0; i < 4; i++) {
            c.due("a faulty LAW while there is room", -9, Checks.law(x, "eddy"));
            c.due("its place", 4, x.fault());
            c.due("LAW " + i, i, Checks.law(x, "eddy " + (i + 5) + ";"));
            c.due("no FAULT", -1, x.fault());
        }
        c.none("a 5th LAW", x, () -> Checks.law(x, "eddy 1;"));
        c.none("a faulty 5th LAW", x, () -> Checks.law(x, "eddy"));
        c.none("an empty 5th LAW", x, () -> x.law(0, false));
        c.due("the last one's eddy", 8, x.pull(3, 3));
        c.due("a WAY beside them", 0, Checks.way(x, "off 1;"));
    }

    /** Promise 7: "-1: there are .. (3)". */
    private static void ways() {
        TankHulls x = new TankHulls();
        x.hull(100, 2);
        for (int i = 0; i < 3; i++) {
            c.due("a faulty WAY while there is room", -9, Checks.way(x, "off"));
            c.due("its place", 3, x.fault());
            c.due("WAY " + i, i, Checks.way(x, "add " + (i + 5) + ";"));
            c.due("no FAULT", -1, x.fault());
        }
        c.none("a 4th WAY", x, () -> Checks.way(x, "add 1;"));
        c.none("a faulty 4th WAY", x, () -> Checks.way(x, "add"));
        c.none("an empty 4th WAY", x, () -> x.law(0, true));
        c.due("the last one's add", 7, x.need(2, 0, 2));
        for (int i = 0; i < 4; i++) {
            c.due("LAW " + i + " beside them", i, Checks.law(x, "eddy 1;"));
        }
    }

    /** Promises 18 and 19: "its number; -1: there are 60". */
    private static void runs() {
        TankHulls x = new TankHulls();
        x.hull(100, 2);
        Checks.law(x, "eddy 100;");
        for (int i = 0; i < 58; i++) {
            c.due("RUN " + i, i, x.run(i));
        }
        c.due("RUN 58 is DRAWN", 58, x.tow(0, 0));
        int seed = x.count(10);
        c.due("RUN 59 is DRAWN", 59, x.tow(0, 0));
        c.due("the SEED went on", 1, seed != x.count(10) ? 1 : 0);
        c.none("a 61st RUN", x, () -> x.run(7));
        c.none("a 61st RUN that is DRAWN", x, () -> x.tow(0, 50));
        c.due("RUNS", 60, x.count(4));
        c.due("the last one", 100, x.ran(59, 6));
    }

    /** Promise 25: "how many there are; -1: there are 20". */
    private static void ships() {
        TankHulls x = new TankHulls();
        for (int i = 1; i <= 20; i++) {
            c.due("ship " + i, i, x.earlier(1000, i));
        }
        c.none("a 21st ship", x, () -> x.earlier(1000, 500));
        c.due("the last one's RATIO", 20, x.ratio(19));
        c.due("MIDDLE", 10, x.ratio(-1));
        c.due("all STRANGE but MIDDLE", 0xFFFFF - (1 << 9), x.strange(0));
        c.due("ODDS of all", 20, x.odds(1, 1));
        c.due("the greatest PRICE", 199980, x.price(1, 1, 9999, 9999));
        c.due("the least PRICE", -199980, x.price(1000000000, 0, 9999, 9999));
    }

    /** Promise 31: "how many there are; -1: there are 6". */
    private static void mile() {
        TankHulls x = new TankHulls();
        for (int i = 1; i <= 6; i++) {
            c.due("run " + i, i, x.mile(999, 99));
        }
        c.none("a 7th run", x, () -> x.mile(1, 1));
        c.due("the greatest MEAN", 32 * 1008, x.mean(false));
        c.due("its TIDE", 0, x.mean(true));
    }

    /** Promise 36: "-1: there are 8; -2: the months do not rise (the first of these)". */
    private static void fouling() {
        TankHulls x = new TankHulls();
        for (int i = 1; i <= 8; i++) {
            c.due("row " + i, i, x.foul(10 * i, i));
            if (i < 8) {
                String before = Rig.look(x);
                c.due("months as before", -2, x.foul(10 * i, 500));
                c.due("one month less", -2, x.foul(10 * i - 1, 500));
                c.same("after these", before, Rig.look(x));
            }
        }
        c.none("a 9th row", x, () -> x.foul(81, 500));
        c.none("a 9th row that does not rise", x, () -> x.foul(80, 500));
        TankHulls y = new TankHulls();
        c.due("a row at 0 months", 1, y.foul(0, 1));
        c.due("0 months do not rise", -2, y.foul(0, 1));
        c.due("one month more does", 2, y.foul(1, 1));
        c.due("a row at 999 months", 3, y.foul(999, 1));
        c.due("nothing is behind it", -2, y.foul(999, 1));
    }

    /** Promise 38: "how many there are; -1: there are 3". */
    private static void images() {
        TankHulls x = new TankHulls();
        for (int i = 1; i <= 3; i++) {
            x.seed(i);
            c.due("IMAGE " + i, i, x.image());
        }
        x.seed(9);
        c.none("a 4th IMAGE", x, () -> x.image());
        c.due("two are left", 2, x.restore());
        c.due("the third was the latest", 3, x.count(10));
    }

    /** Exceptions come also where there is no room, and nothing changes. */
    private static void wrongCallsOfFullOnes() {
        TankHulls x = full();
        String before = Rig.look(x);
        c.throwsDue("hull", Checks.ARGUMENT, () -> x.hull(9, 2));
        c.throwsDue("hull", Checks.ARGUMENT, () -> x.hull(10, 13));
        c.throwsDue("tank", Checks.ARGUMENT, () -> x.tank(0, 1));
        c.throwsDue("tank", Checks.ARGUMENT, () -> x.tank(1, 201));
        c.throwsDue("law", Checks.ARGUMENT, () -> x.law(1, false));
        c.throwsDue("a way", Checks.ARGUMENT, () -> x.law(-1, true));
        c.throwsDue("run", Checks.ARGUMENT, () -> x.run(1000000001));
        c.throwsDue("tow: no such LAW", Checks.INDEX, () -> x.tow(4, 0));
        c.throwsDue("tow: SPREAD", Checks.ARGUMENT, () -> x.tow(0, 51));
        c.throwsDue("earlier", Checks.ARGUMENT, () -> x.earlier(0, 0));
        c.throwsDue("mile", Checks.ARGUMENT, () -> x.mile(1000, 0));
        c.throwsDue("foul", Checks.ARGUMENT, () -> x.foul(1000, 0));
        c.same("after all these", before, Rig.look(x));
    }

    /** What was full has room again, when an IMAGE or anew() made it so. */
    private static void roomAgain() {
        TankHulls x = new TankHulls();
        x.image();
        for (int i = 0; i < 7; i++) {
            x.hull(10, 2);
            x.tank(1, 1);
            x.mile(1, 1);
        }
        for (int i = 0; i < 61; i++) {
            x.run(1);
            x.earlier(1, 1);
            x.foul(i, 1);
        }
        c.due("the MILE is begun anew", 6, x.anew());
        c.due("its first run", 1, x.mile(1, 1));
        c.due("restore", 0, x.restore());
        c.due("a HULL", 0, x.hull(10, 2));
        c.due("a TANK", 0, x.tank(1, 1));
        c.due("a RUN", 0, x.run(1));
        c.due("a ship", 1, x.earlier(1, 1));
        c.due("a run of the MILE", 1, x.mile(1, 1));
        c.due("a row", 1, x.foul(0, 1));
        c.due("an IMAGE", 1, x.image());
    }

    /** Promise 39: "-1: there is none". */
    private static void noImage() {
        TankHulls x = Rig.whole();
        c.due("the IMAGE is gone", 0, x.restore());
        c.none("there is none", x, () -> x.restore());
        TankHulls y = new TankHulls();
        c.none("there was none", y, () -> y.restore());
    }

    /** Promise 1: "No HULLS, no LAWS"; 23: no bits; 24: "NONE: fewer than two FIT". */
    private static void noLaws() {
        TankHulls x = new TankHulls();
        c.due("no LAW FITS", 0, x.fits(99));
        x.hull(100, 2);
        c.throwsDue("no LAW", Checks.INDEX, () -> x.pull(0, 0));
        c.throwsDue("no WAY", Checks.INDEX, () -> x.need(0, 0, 0));
        c.due("none FITS", -1, x.telling(99));
        Checks.law(x, "eddy 100;");
        c.due("one FITS", -1, x.telling(99));
        Checks.law(x, "eddy 100+least(speed,50);");
        c.due("two FIT", 50, x.telling(99));
        x.run(100);
        c.due("one of two FITS", -1, x.telling(0));
        c.due("both within one hundredth", 50, x.telling(1));
    }

    /** "0, if there are none of one of them"; a LAW FITS, if there is no RUN. */
    private static void noRuns() {
        TankHulls x = new TankHulls();
        x.hull(100, 2);
        for (int i = 0; i < 4; i++) {
            Checks.law(x, "eddy " + i + ";");
        }
        c.due("all four FIT", 15, x.fits(0));
        c.due("none with, none without", 0, x.wire());
        x.run(5);
        c.due("none with", 0, x.wire());
        TankHulls y = new TankHulls();
        y.hull(100, 2);
        y.trim(true, 0);
        y.run(5);
        c.due("none without", 0, y.wire());
        y.trim(false, 0);
        y.run(0);
        c.due("one of each", 5, y.wire());
    }

    /** "NEED itself without such"; none for whom NEED is not above; promise 26: "there is none such". */
    private static void noShips() {
        TankHulls x = new TankHulls();
        c.due("the least SPAN", 1234, x.span(1234, false));
        c.due("the greatest SPAN", 1234, x.span(1234, true));
        c.due("ODDS", 0, x.odds(0, 1000000000));
        c.due("PRICE", 0, x.price(0, 1000000000, 9999, 9999));
        c.due("STRANGE", 0, x.strange(0));
        c.throwsDue("MIDDLE", Checks.ELEMENT, () -> x.ratio(-1));
        x.earlier(2, 1);
        c.due("the SPAN of one", 617, x.span(1234, false));
        c.due("the greatest likewise", 617, x.span(1234, true));
        c.due("MIDDLE of one", 500, x.ratio(-1));
    }

    /** Promise 32: "VOID: there are fewer than 2 runs"; 33: of none. */
    private static void noMile() {
        TankHulls x = new TankHulls();
        for (int runs = 0; runs < 2; runs++) {
            c.due("MEAN of " + runs, Integer.MIN_VALUE, x.mean(false));
            c.due("TIDE of " + runs, Integer.MIN_VALUE, x.mean(true));
            x.mile(7, 0);
        }
        c.due("MEAN of 2", 14, x.mean(false));
        c.due("TIDE of 2", 0, x.mean(true));
        c.due("anew of 2", 2, x.anew());
        c.due("anew of none", 0, x.anew());
        c.due("VOID again", Integer.MIN_VALUE, x.mean(false));
    }

    /** "ahead of the first its own, behind the last its own; 0 without". */
    private static void noFouling() {
        TankHulls x = new TankHulls();
        c.due("without, at 0", 0, x.grown(0));
        c.due("without, at 999", 0, x.grown(999));
        x.foul(10, 30);
        x.foul(20, 50);
        c.due("far ahead of the first", 30, x.grown(0));
        c.due("one month ahead of it", 30, x.grown(9));
        c.due("at the first", 30, x.grown(10));
        c.due("one month behind it", 32, x.grown(11));
        c.due("one month ahead of the last", 48, x.grown(19));
        c.due("at the last", 50, x.grown(20));
        c.due("one month behind it", 50, x.grown(21));
        c.due("far behind it", 50, x.grown(999));
    }

    /** Promise 7: n may be 0; a text of no CLAUSE tells 0 of every word. */
    private static void emptyTexts() {
        TankHulls x = new TankHulls();
        x.hull(100, 2);
        c.due("an empty LAW", 0, x.law(0, false));
        c.due("an empty WAY", 0, x.law(0, true));
        c.due("no FAULT", -1, x.fault());
        for (int what = 0; what < 5; what++) {
            c.due("pull " + what, 0, x.pull(0, what));
        }
        c.due("REST", 5, x.need(0, 5, 0));
        c.due("NEED", 5, x.need(0, 5, 2));
        x.feed(0x3B3B3B3B, 0, 0, 0, 0);
        c.due("the first 0 bytes of 20", 1, x.law(0, false));
        c.due("the TAPE is empty then", 0, x.count(9));
    }
}
