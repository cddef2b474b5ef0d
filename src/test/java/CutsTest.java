/**
 * Every "cut", "at least" and "at most" of a number that is worked out: at the last value on one side and the
 * first on the other.
 */
public final class CutsTest {
    private static final Checks c = new Checks();
    private static final long BILLION = 1000000000L;

    public static void main(String[] args) {
        modelLength();
        modelWet();
        modelVolume();
        modelBeamAndDraft();
        modelSection();
        modelOfNothing();
        namesAreCut();
        divisionCuts();
        roots();
        toldLimits();
        toldShares();
        skinAndPullAreCut();
        rest();
        needIsCut();
        shipsSpeed();
        modelsSpeed();
        errorsPull();
        sidesWithin();
        drawn();
        drawnLimits();
        fits();
        ratios();
        strange();
        spans();
        odds();
        winds();
        grown();
        c.finish();
    }

    /** A HULL with these BEAMS and DRAFTS by turns. */
    private static TankHulls hull(int length, int... lines) {
        TankHulls x = new TankHulls();
        x.hull(length, lines.length / 2);
        for (int i = 0; i < lines.length; i += 2) {
            x.station(0, i / 2, lines[i], lines[i + 1]);
        }
        return x;
    }

    /** "LENGTH by SCALE (cut, 1 at least)". */
    private static void modelLength() {
        c.due("39 by 40", 1, hull(39, 1, 1, 1, 1).model(0, 40, 0));
        c.due("10 by 40", 1, hull(10, 1, 1, 1, 1).model(0, 40, 0));
        c.due("40 by 40", 1, hull(40, 1, 1, 1, 1).model(0, 40, 0));
        c.due("79 by 40", 1, hull(79, 1, 1, 1, 1).model(0, 40, 0));
        c.due("80 by 40", 2, hull(80, 1, 1, 1, 1).model(0, 40, 0));
        c.due("400 by 40", 10, hull(400, 1, 1, 1, 1).model(0, 40, 0));
        c.due("10 by 1", 10, hull(10, 1, 1, 1, 1).model(0, 1, 0));
        c.due("399 by 2", 199, hull(399, 1, 1, 1, 1).model(0, 2, 0));
    }

    /** "the square of that times the sum .. of BEAM and twice DRAFT, by 100 and by how many STATIONS (cut at the end)". */
    private static void modelWet() {
        // 100 times the sum by 300
        c.due("59 by 3", 19, hull(10, 20, 5, 10, 5, 3, 3).model(0, 1, 1));
        c.due("60 by 3", 20, hull(10, 20, 5, 10, 5, 4, 3).model(0, 1, 1));
        // 225 times 7 by 200 is 7.875; cut ahead of the end it would be less
        c.due("cut at the end alone", 7, hull(15, 1, 1, 0, 2).model(0, 1, 1));
        c.due("9 at 8 times 225 by 200", 9, hull(15, 2, 1, 0, 2).model(0, 1, 1));
    }

    /** "its cube times the sum of BEAM times DRAFT, by 10,000 and by how many (cut)". */
    private static void modelVolume() {
        // 1,000 times the sum by 20,000
        c.due("119 by 20", 5, hull(10, 60, 1, 59, 1).model(0, 1, 2));
        c.due("120 by 20", 6, hull(10, 60, 1, 60, 1).model(0, 1, 2));
        c.due("19 by 20", 0, hull(10, 19, 1, 0, 9).model(0, 1, 2));
        c.due("20 by 20", 1, hull(10, 20, 1, 0, 9).model(0, 1, 2));
        // the cube is of the model's length, 3, not of 3.75
        c.due("27 times 7,200 by 20,000", 9, hull(15, 60, 60, 60, 60).model(0, 4, 2));
    }

    /** "beam, draft: the greatest, times length, by 100 (cut)". */
    private static void modelBeamAndDraft() {
        c.due("19 of 15", 2, hull(15, 19, 1, 3, 1).model(0, 1, 3));
        c.due("20 of 15", 3, hull(15, 3, 1, 20, 1).model(0, 1, 3));
        c.due("19 of 15", 2, hull(15, 1, 3, 1, 19).model(0, 1, 4));
        c.due("20 of 15", 3, hull(15, 1, 20, 1, 3).model(0, 1, 4));
        c.due("60 of 400", 240, hull(400, 60, 0, 0, 60).model(0, 1, 3));
        c.due("60 of 400", 240, hull(400, 60, 0, 0, 60).model(0, 1, 4));
        c.due("the last STATION counts", 60, hull(100, 1, 1, 1, 1, 60, 7).model(0, 1, 3));
        c.due("the last STATION counts", 7, hull(100, 1, 1, 1, 1, 60, 7).model(0, 1, 4));
    }

    /** "the greatest BEAM times DRAFT of one STATION times the square of length, by 10,000 (cut)". */
    private static void modelSection() {
        c.due("99 by 100", 0, hull(10, 9, 11, 1, 1).model(0, 1, 5));
        c.due("100 by 100", 1, hull(10, 1, 1, 10, 10).model(0, 1, 5));
        c.due("of one STATION", 60, hull(100, 60, 1, 1, 60).model(0, 1, 5));
        c.due("the greatest of all", 57600, hull(400, 60, 60, 0, 0).model(0, 1, 5));
    }

    /** "0 to 60 hundredths": with 0 everywhere all but the length is 0. */
    private static void modelOfNothing() {
        TankHulls x = hull(400, 0, 0, 0, 0);
        for (int what = 1; what < 6; what++) {
            c.due("part " + what + " of nothing", 0, x.model(0, 1, what));
        }
        TankHulls y = hull(10, 60, 60, 60, 60);
        // length 1: 180 by 100, 3,600 by 10,000, 60 by 100
        int[] least = {1, 1, 0, 0, 0, 0};
        for (int what = 0; what < 6; what++) {
            c.due("part " + what + " of length 1", least[what], y.model(0, 40, what));
        }
    }

    /** "fn" and "side" are cut; side is "0 in open water". */
    private static void namesAreCut() {
        c.due("fn 100 by 100", 1, hull(100, 1, 1, 1, 1).name(6));
        c.due("fn 100 by 101", 0, hull(101, 1, 1, 1, 1).name(6));
        c.due("fn 100 by 51", 1, hull(51, 1, 1, 1, 1).name(6));
        c.due("fn 100 by 50", 2, hull(50, 1, 1, 1, 1).name(6));
        TankHulls fast = hull(10, 1, 1, 1, 1);
        fast.set(0, 40, 99, -1);
        c.due("the greatest fn", 980100, fast.name(6));
        TankHulls x = hull(100, 10, 5, 10, 5);
        x.tank(100, 50);
        x.tank(102, 50);
        x.tank(1, 1);
        x.tank(200, 200);
        // the section is 50
        c.due("side in open water", 0, x.name(8));
        x.set(0, 1, 1, 0);
        c.due("side 5,000 by 5,000", 1, x.name(8));
        x.set(0, 1, 1, 1);
        c.due("side 5,000 by 5,100", 0, x.name(8));
        x.set(0, 1, 1, 2);
        c.due("side 5,000 by 1", 5000, x.name(8));
        x.set(0, 1, 1, 3);
        c.due("side 5,000 by 40,000", 0, x.name(8));
        x.set(0, 1, 1, -1);
        c.due("side in open water again", 0, x.name(8));
        TankHulls y = hull(400, 60, 60, 60, 60);
        y.tank(1, 1);
        y.set(0, 1, 1, 0);
        c.due("the greatest side", 5760000, y.name(8));
    }

    /** What a LAW tells of eddy for a HULL of length 100 at speed 1. */
    private static long told(String word, String e, int what) {
        TankHulls x = hull(100, 10, 5, 10, 5);
        Checks.law(x, word + " " + e + ";");
        return x.pull(0, what);
    }

    private static long eddy(String e) {
        return told("eddy", e, 3);
    }

    /** "/ cuts, by 0 it is 0". */
    private static void divisionCuts() {
        c.due("6/7", 0, eddy("6/7"));
        c.due("7/7", 1, eddy("7/7"));
        c.due("13/7", 1, eddy("13/7"));
        c.due("towards 0 below 0", 7, eddy("10+(0-7)/2"));
        c.due("by less than 0", 7, eddy("10+7/(0-2)"));
        c.due("both below 0", 3, eddy("(0-7)/(0-2)"));
        c.due("-1 by 2", 10, eddy("10+(0-1)/2"));
        c.due("by 0", 10, eddy("10+5/0"));
        c.due("by a VALUE of 0", 10, eddy("10+5/(wire+side)"));
        c.due("0 by 0", 10, eddy("10+0/0"));
        c.due("below 0 by 0", 10, eddy("10+(0-5)/0"));
    }

    /** "the greatest whole number whose square is not above it; 0 below 0". */
    private static void roots() {
        c.due("of -1", 0, eddy("root(0-1)"));
        c.due("of 0", 0, eddy("root(0)"));
        for (int k : new int[] {1, 2, 3, 10, 99, 9999}) {
            c.due("below the square of " + k, k - 1, eddy("root(" + k + "*" + k + "-1)"));
            c.due("the square of " + k, k, eddy("root(" + k + "*" + k + ")"));
            c.due("above the square of " + k, k, eddy("root(" + k + "*" + k + "+1)"));
        }
        // 3,037,000,499 is the root of the greatest VALUE; its square and one less
        String greatest = "(3037*1000*1000+499)";
        c.due("the greatest square", 499, eddy("root(" + greatest + "*" + greatest + ")-3037*1000*1000"));
        c.due("one below it", 498, eddy("root(" + greatest + "*" + greatest + "-1)-3037*1000*1000"));
        c.due("one above it", 499, eddy("root(" + greatest + "*" + greatest + "+1)-3037*1000*1000"));
    }

    /** "0 at least, 1,000,000,000 at most" of skin, wave, eddy, off and add. */
    private static void toldLimits() {
        String[] words = {"skin", "wave", "eddy"};
        for (int i = 0; i < 3; i++) {
            c.due(words[i] + " -1", 0, told(words[i], "0-1", i + 1));
            c.due(words[i] + " 0", 0, told(words[i], "0", i + 1));
            c.due(words[i] + " 1", 1, told(words[i], "1", i + 1));
            c.due(words[i] + " 10,001", 10001, told(words[i], "9999+2", i + 1));
            c.due(words[i] + " 999,999,999", BILLION - 1, told(words[i], "1000*1000*1000-1", i + 1));
            c.due(words[i] + " 1,000,000,000", BILLION, told(words[i], "1000*1000*1000", i + 1));
            c.due(words[i] + " 1,000,000,001", BILLION, told(words[i], "1000*1000*1000+1", i + 1));
        }
        c.due("off -1", 5, need("off 0-1;", 5, 0));
        c.due("off 999,999,999", 1, need("off 1000*1000*1000-1;", BILLION, 0));
        c.due("off 1,000,000,000", 0, need("off 1000*1000*1000;", BILLION, 0));
        c.due("add -1", 0, need("add 0-1;", 0, 2));
        c.due("add 999,999,999", BILLION - 1, need("add 1000*1000*1000-1;", 0, 2));
        c.due("add 1,000,000,000", BILLION, need("add 1000*1000*1000;", 0, 2));
        c.due("add 1,000,000,001", BILLION, need("add 1000*1000*1000+1;", 0, 2));
        c.due("0 without a CLAUSE", 0, told("wave", "5", 3));
        c.due("0 without a C that holds", 0, eddy("5 if 1=2"));
        c.due("the last one's VALUE is limited, not the greatest", 0, eddy("5;eddy 0-5"));
    }

    /** "(of foul, sides and more 10,000)". */
    private static void toldShares() {
        String[] e = {"0-1", "0", "1", "9999", "9999+1", "9999+2"};
        long[] share = {0, 0, 1, 9999, 10000, 10000};
        for (int i = 0; i < e.length; i++) {
            c.due("foul " + e[i], 100 + share[i], told("skin 100;foul", e[i], 1));
            c.due("sides " + e[i], 100 + share[i], told("eddy 100;sides", e[i], 0));
            c.due("more " + e[i], 100 + share[i], need("more " + e[i] + ";", 100, 2));
        }
    }

    /** "skin, and foul hundredths of it (cut)"; "ALL, and sides hundredths of it (cut)". */
    private static void skinAndPullAreCut() {
        c.due("1 hundredth of 99", 99, told("foul 1;skin", "99", 1));
        c.due("1 hundredth of 100", 101, told("foul 1;skin", "100", 1));
        c.due("1 hundredth of 199", 200, told("foul 1;skin", "199", 1));
        c.due("1 hundredth of 99", 99, told("sides 1;eddy", "99", 0));
        c.due("1 hundredth of 100", 101, told("sides 1;eddy", "100", 0));
        c.due("of ALL, not of its parts", 101, told("sides 1;skin 30;wave 30;eddy", "40", 0));
        // SKIN 99 (not 99.99) and 100 are 199, its hundredth is 1; uncut it would be 201
        c.due("SKIN is cut before ALL is made", 200, told("foul 1;sides 1;skin 99;eddy", "100", 0));
        c.due("foul is no part of wave", 100, told("foul 100;wave", "100", 0));
    }

    /** A WAY's part for the ship itself at speed 1. */
    private static long need(String way, long pull, int what) {
        TankHulls x = hull(100, 10, 5, 10, 5);
        Checks.way(x, way);
        return x.need(0, (int) pull, what);
    }

    /** "PULL less off (0 at least)". */
    private static void rest() {
        c.due("one below off", 0, need("off 50;", 49, 0));
        c.due("off itself", 0, need("off 50;", 50, 0));
        c.due("one above off", 1, need("off 50;", 51, 0));
        c.due("no REST, no GROWN", 0, need("off 50;", 0, 1));
        c.due("no REST, but add", 7, need("off 50;add 7;", 0, 2));
    }

    /** "GROWN and add of the SHIP, and more hundredths of that (cut)". */
    private static void needIsCut() {
        c.due("1 hundredth of 99", 99, need("more 1;", 99, 2));
        c.due("1 hundredth of 100", 101, need("more 1;", 100, 2));
        c.due("of GROWN and add together", 101, need("more 1;add 50;", 50, 2));
        TankHulls x = hull(400, 10, 5, 10, 5);
        Checks.way(x, "");
        Checks.way(x, "add 1000*1000*1000;more 9999+1;");
        x.set(0, 40, 99, -1);
        c.due("the greatest GROWN", BILLION * 64000, x.need(0, (int) BILLION, 1));
        c.due("the greatest NEED", (BILLION * 64000 + BILLION) * 101, x.need(1, (int) BILLION, 2));
        x.set(0, 1, 99, -1);
        c.due("GROWN by 1", BILLION, x.need(0, (int) BILLION, 1));
    }

    private static long shipsSpeedOf(int scale, int speed) {
        TankHulls x = hull(400, 10, 5, 10, 5);
        Checks.way(x, "add speed;");
        x.set(0, scale, speed, -1);
        c.due("the SHIP's own name of it", x.need(0, 0, 3), x.need(0, 0, 2));
        return x.need(0, 0, 3);
    }

    /** "its speed the root .. of k times the square of the model's (99 at most)". */
    private static void shipsSpeed() {
        c.due("1 times 1", 1, shipsSpeedOf(1, 1));
        c.due("3 times 1", 1, shipsSpeedOf(3, 1));
        c.due("4 times 1", 2, shipsSpeedOf(4, 1));
        c.due("2 times 49", 9, shipsSpeedOf(2, 7));
        c.due("40 times 1", 6, shipsSpeedOf(40, 1));
        c.due("2 times 4,900 is 1 below the square of 99", 98, shipsSpeedOf(2, 70));
        c.due("9 times 1,089 is the square of 99", 99, shipsSpeedOf(9, 33));
        c.due("1 times the square of 99", 99, shipsSpeedOf(1, 99));
        c.due("4 times 2,500: 100", 99, shipsSpeedOf(4, 50));
        c.due("the greatest", 99, shipsSpeedOf(40, 99));
    }

    /** The model's speed in ERROR, by a WAY that adds nothing and a LAW that is its speed for models alone. */
    private static long modelsSpeedOf(int speed, int scale) {
        TankHulls x = hull(400, 10, 5, 10, 5);
        Checks.law(x, "eddy speed if length<400;");
        Checks.way(x, "");
        return x.error(0, 0, speed, scale) / (scale * scale * scale);
    }

    /** "the greatest whole m (1 at least) with m times m times k not above v times v". */
    private static void modelsSpeed() {
        c.due("10 at 4", 5, modelsSpeedOf(10, 4));
        c.due("9 at 4", 4, modelsSpeedOf(9, 4));
        c.due("11 at 4", 5, modelsSpeedOf(11, 4));
        c.due("99 at 2", 70, modelsSpeedOf(99, 2));
        c.due("99 at 40", 15, modelsSpeedOf(99, 40));
        c.due("2 at 4", 1, modelsSpeedOf(2, 4));
        c.due("2 at 5: 1 at least", 1, modelsSpeedOf(2, 5));
        c.due("1 at 2: 1 at least", 1, modelsSpeedOf(1, 2));
        c.due("1 at 40: 1 at least", 1, modelsSpeedOf(1, 40));
        c.due("3 at 2", 2, modelsSpeedOf(3, 2));
    }

    /** "NEED from PULL at it (1,000,000,000 at most)", and not the SHIP's. */
    private static void errorsPull() {
        TankHulls x = hull(100, 10, 5, 10, 5);
        Checks.law(x, "eddy 1000*1000*1000-1;");
        Checks.law(x, "eddy 1000*1000*1000;");
        Checks.law(x, "eddy 1000*1000*1000;skin 1;");
        Checks.way(x, "");
        c.due("999,999,999", 0, x.error(0, 0, 5, 1));
        c.due("1,000,000,000", 0, x.error(1, 0, 5, 1));
        c.due("1,000,000,001", 1, x.error(2, 0, 5, 1));
        c.due("its 1,000,000,000 times 8", 7 * BILLION - 1, x.error(2, 0, 5, 2));
        c.due("less by one times 8", 7 * (BILLION - 1), x.error(0, 0, 5, 2));
    }

    /** Promise 17: "at most o (0 to 99) hundredths of PULL in open water"; NONE if there is none to 40. */
    private static void sidesWithin() {
        TankHulls x = hull(300, 60, 60, 60, 60);
        x.tank(1, 1);
        Checks.law(x, "eddy 200;eddy 200+length-50 if side>0;");
        Checks.law(x, "eddy 199;eddy 199+length-50 if side>0;");
        Checks.law(x, "eddy 200;eddy 150+length if side>0 and speed=7;");
        x.set(0, 1, 7, 0);
        // at the SCALE 5 the model is 60 long: 10 more; at 6 none more
        c.due("10 are 5 hundredths of 200", 5, x.widest(0, 5));
        c.due("10 are above 4 hundredths of 200", 6, x.widest(0, 4));
        c.due("10 are above 5 hundredths of 199", 6, x.widest(1, 5));
        c.due("10 are below 6 hundredths of 199", 5, x.widest(1, 6));
        c.due("none more", 6, x.widest(0, 0));
        c.due("at the speed at hand", 6, x.widest(2, 0));
        x.set(0, 1, 8, 0);
        c.due("at another one", 1, x.widest(2, 0));
        TankHulls y = hull(390, 60, 60, 60, 60);
        y.tank(1, 1);
        Checks.law(y, "eddy 100;eddy 199 if side>0;");
        Checks.law(y, "eddy 100;eddy 200 if side>0;");
        Checks.law(y, "eddy 100;eddy 200 if side>0 and length>9;");
        Checks.law(y, "eddy 1 if side>0;");
        y.set(0, 1, 1, 0);
        c.due("99 hundredths within 99", 1, y.widest(0, 99));
        c.due("99 hundredths above 98", -1, y.widest(0, 98));
        c.due("100 hundredths above 99", -1, y.widest(1, 99));
        c.due("40 is the last one", 40, y.widest(2, 99));
        c.due("1 is above 99 hundredths of 0", -1, y.widest(3, 99));
        y.set(0, 1, 1, -1);
        c.due("open water is within 0", 1, y.widest(3, 0));
    }

    private static int draw(int seed, int many) {
        return ((seed * 1103515245 + 12345) >>> 16 & 32767) % many;
    }

    /** A SEED of which the next DRAW of so many is this one. */
    private static int seedFor(int draw, int many) {
        int seed = 0;
        while (draw(seed, many) != draw) {
            seed++;
        }
        return seed;
    }

    private static long towed(String law, int spread, int more) {
        TankHulls x = hull(100, 10, 5, 10, 5);
        Checks.law(x, law);
        x.seed(seedFor(more + spread, 2 * spread + 1));
        c.due("the first RUN", 0, x.tow(0, spread));
        return x.ran(0, 6);
    }

    /** "PULL, and that times a DRAW of 2 s + 1 less s, by 100 (cut; 0 at least)". */
    private static void drawn() {
        c.due("99 and a hundredth", 99, towed("eddy 99;", 1, 1));
        c.due("100 and a hundredth", 101, towed("eddy 100;", 1, 1));
        c.due("99 less a hundredth", 99, towed("eddy 99;", 1, -1));
        c.due("100 less a hundredth", 99, towed("eddy 100;", 1, -1));
        c.due("199 less a hundredth", 198, towed("eddy 199;", 1, -1));
        c.due("itself", 199, towed("eddy 199;", 1, 0));
        c.due("SPREAD 0", 199, towed("eddy 199;", 0, 0));
        c.due("the greatest DRAW", 298, towed("eddy 199;", 50, 50));
        c.due("the least DRAW", 100, towed("eddy 199;", 50, -50));
        c.due("of 1", 1, towed("eddy 1;", 50, -50));
        c.due("of 0", 0, towed("eddy 0;", 50, -50));
        c.due("of 0", 0, towed("", 50, 50));
    }

    /** Promise 19: "(A PULL above 1,000,000,000 counts as that.)". */
    private static void drawnLimits() {
        c.due("999,999,999", BILLION - 1, towed("eddy 1000*1000*1000-1;", 0, 0));
        c.due("1,000,000,000", BILLION, towed("eddy 1000*1000*1000;", 0, 0));
        c.due("1,000,000,001", BILLION, towed("eddy 1000*1000*1000;skin 1;", 0, 0));
        c.due("the greatest PULL", BILLION, towed("eddy 1000*1000*1000;skin 1000*1000*1000;sides 9999;", 0, 0));
        c.due("less a hundredth of that", 990000000, towed("eddy 1000*1000*1000;skin 1000*1000;", 1, -1));
        c.due("and a hundredth of that", BILLION, towed("eddy 1000*1000*1000;", 1, 1));
        // 1,000 and a hundredth: 990,099,009 becomes 999,999,999, one more 1,000,000,000, 100 more too much
        c.due("one below the most when drawn", BILLION - 1, towed("eddy 9900*10*10*1000+99*1000+9;", 1, 1));
        c.due("the most when drawn", BILLION, towed("eddy 9900*10*10*1000+99*1000+10;", 1, 1));
        c.due("above the most when drawn", BILLION, towed("eddy 9900*10*10*1000+99*1000+110;", 1, 1));
    }

    private static int fitsOf(String law, int pull, int o) {
        TankHulls x = hull(100, 10, 5, 10, 5);
        Checks.law(x, law);
        x.run(pull);
        return x.fits(o);
    }

    /** "its PULL is at most o hundredths of the LAW's (cut) away from the LAW's". */
    private static void fits() {
        int[] pulls = {197, 198, 199, 200, 201};
        int[] within = {0, 1, 1, 1, 0};
        for (int i = 0; i < pulls.length; i++) {
            c.due(pulls[i] + " within 1 of 199", within[i], fitsOf("eddy 199;", pulls[i], 1));
            c.due(pulls[i] + " within 0 of 199", pulls[i] == 199 ? 1 : 0, fitsOf("eddy 199;", pulls[i], 0));
        }
        c.due("1 within 99 of 100", 1, fitsOf("eddy 100;", 1, 99));
        c.due("0 within 99 of 100", 0, fitsOf("eddy 100;", 0, 99));
        c.due("199 within 99 of 100", 1, fitsOf("eddy 100;", 199, 99));
        c.due("200 within 99 of 100", 0, fitsOf("eddy 100;", 200, 99));
        c.due("0 of 0", 1, fitsOf("", 0, 0));
        c.due("1 of 0", 0, fitsOf("", 1, 99));
        c.due("hundredths of the LAW's, not of the RUN's", 0, fitsOf("eddy 99;", 100, 1));
        c.due("hundredths of the LAW's, not of the RUN's", 1, fitsOf("eddy 100;", 99, 1));
    }

    private static int ratioOf(int foretold, int was) {
        TankHulls x = new TankHulls();
        x.earlier(foretold, was);
        return x.ratio(0);
    }

    /** "1,000 times this by that (cut; 2,147,483,647 at most)". */
    private static void ratios() {
        c.due("1,999 by 2", 999, ratioOf(2000, 1999));
        c.due("999 by 1,000", 0, ratioOf(1000000, 999));
        c.due("1,000 by 1,000", 1, ratioOf(1000000, 1000));
        c.due("2 thirds", 666, ratioOf(3, 2));
        c.due("the same", 1000, ratioOf(1000000000, 1000000000));
        c.due("nothing", 0, ratioOf(1, 0));
        c.due("the last below the most", 2147483000, ratioOf(1, 2147483));
        c.due("the first above it", 2147483647, ratioOf(1, 2147484));
        c.due("one below the most", 2147483646, ratioOf(65, 139586437));
        // 79,456,895,000 by 37 is 2,147,483,648.6
        c.due("one above the most", 2147483647, ratioOf(37, 79456895));
        c.due("far above it", 2147483647, ratioOf(1, 1000000000));
    }

    private static TankHulls ships(int... ratios) {
        TankHulls x = new TankHulls();
        for (int ratio : ratios) {
            x.earlier(1000, ratio);
        }
        return x;
    }

    /** "whose RATIO is more than a told number away from MIDDLE". */
    private static void strange() {
        TankHulls x = ships(500, 499, 501, 400, 600);
        c.due("by 0", 0b11110, x.strange(0));
        c.due("by 1", 0b11000, x.strange(1));
        c.due("by 99", 0b11000, x.strange(99));
        c.due("by 100", 0, x.strange(100));
        TankHulls y = ships(10000, 0, 20000, 10000, 10000);
        c.due("10,000 away by 9,999", 0b00110, y.strange(9999));
        TankHulls z = ships(10000, 1, 19999, 10000, 10000);
        c.due("9,999 away by 9,999", 0, z.strange(9999));
        c.due("9,999 away by 9,998", 0b00110, z.strange(9998));
        TankHulls far = ships(0, 0);
        far.earlier(1, 1000000000);
        c.due("2,147,483,647 away", 0b100, far.strange(9999));
    }

    /** "of those that are not STRANGE by 200, by 1,000 (cut ..)". */
    private static void spans() {
        TankHulls x = ships(1000, 800, 1200);
        c.due("200 below", 800, x.span(1000, false));
        c.due("200 above", 1200, x.span(1000, true));
        TankHulls y = ships(1000, 799, 1201);
        c.due("201 below is STRANGE", 1000, y.span(1000, false));
        c.due("201 above is STRANGE", 1000, y.span(1000, true));
        c.due("799.2 is cut", 799, x.span(999, false));
        c.due("1,198.8 is cut", 1198, x.span(999, true));
        c.due("of 0", 0, x.span(0, true));
        c.due("of 1", 0, x.span(1, false));
        c.due("of 1", 1, x.span(1, true));
        TankHulls far = new TankHulls();
        far.earlier(1, 1000000000);
        c.due("the greatest of all", BILLION * 2147483647L / 1000, far.span(1000000000, true));
    }

    /** "NEED times RATIO by 1,000 (cut) is not above the ENGINE's pull", of those not STRANGE by 200. */
    private static void odds() {
        TankHulls x = ships(1000);
        c.due("one less than it needs", 0, x.odds(500, 499));
        c.due("just what it needs", 1, x.odds(500, 500));
        c.due("nothing for nothing", 1, x.odds(0, 0));
        c.due("one for nothing", 0, x.odds(1, 0));
        c.due("all for all", 1, x.odds(1000000000, 1000000000));
        TankHulls cut = ships(999);
        c.due("498.5 cut is 498", 1, cut.odds(499, 498));
        c.due("and above 497", 0, cut.odds(499, 497));
        TankHulls y = ships(1000, 800, 799, 1200, 1201);
        c.due("800, 1,000 and 1,200 count", 3, y.odds(1000, 5000));
        c.due("799 does not", 0, y.odds(1000, 799));
        c.due("800 does", 1, y.odds(1000, 800));
        c.due("PRICE of one and two others", 7 - 2 * 5, y.price(1000, 800, 7, 5));
        c.due("PRICE of three", 21, y.price(1000, 1200, 7, 5));
        c.due("PRICE of two and one other", 9, y.price(1000, 1199, 7, 5));
    }

    private static int sped(int speed, int wind) {
        TankHulls x = new TankHulls();
        x.mile(speed, wind);
        x.mile(0, 0);
        return x.mean(false);
    }

    /** "speed is more by it then, in tenths, cut". */
    private static void winds() {
        int[] winds = {-99, -91, -90, -89, -20, -19, -11, -10, -9, -1, 0, 1, 9, 10, 11, 19, 20, 89, 90, 99};
        int[] more = {-9, -9, -9, -8, -2, -1, -1, -1, 0, 0, 0, 0, 0, 1, 1, 1, 2, 8, 9, 9};
        for (int i = 0; i < winds.length; i++) {
            c.due("wind " + winds[i], 500 + more[i], sped(500, winds[i]));
        }
        c.due("the fastest", 1008, sped(999, 99));
        c.due("the slowest", -9, sped(0, -99));
        TankHulls x = new TankHulls();
        x.mile(0, 0);
        x.mile(999, 99);
        c.due("the least TIDE of two", -1008, x.mean(true));
    }

    /** "GROWN in between by the way (cut)". */
    private static void grown() {
        TankHulls x = new TankHulls();
        x.foul(0, 0);
        x.foul(3, 1);
        x.foul(5, 4);
        x.foul(8, 2);
        x.foul(10, 2);
        x.foul(999, 999);
        int[] want = {0, 0, 0, 1, 2, 4, 4, 3, 2, 2, 2};
        for (int months = 0; months < want.length; months++) {
            c.due("GROWN by " + months, want[months], x.grown(months));
        }
        c.due("one month ahead of the last", 2 + 997 * 988 / 989, x.grown(998));
        c.due("the last", 999, x.grown(999));
        TankHulls y = new TankHulls();
        y.foul(0, 999);
        y.foul(999, 0);
        c.due("falling, a month behind", 998, y.grown(1));
        c.due("falling, a month ahead", 1, y.grown(998));
    }
}
