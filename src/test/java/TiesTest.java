/**
 * Every "of these the least", "of these the first", "the lower one of two", "the last CLAUSE", and what an
 * EXCHANGE must keep to.
 */
public final class TiesTest {
    private static final Checks c = new Checks();

    public static void main(String[] args) {
        bestScale();
        telling();
        betterByPlace();
        betterByPull();
        equalIsNotBetter();
        widestIsLeast();
        middle();
        lastClause();
        exchangesKeepWithin();
        exchangesKeepVolume();
        volumeIsTheShips();
        otherStation();
        linesOfBetter();
        linesStop();
        c.finish();
    }

    private static TankHulls withLaw(int length, int stations, String law) {
        TankHulls x = new TankHulls();
        x.hull(length, stations);
        c.due("a LAW", 0, Checks.law(x, law));
        c.due("a WAY", 0, Checks.way(x, ""));
        return x;
    }

    /** "of 2 to 40 the one for which ERROR and COIN times the model's length are least together; of these the least". */
    private static void bestScale() {
        c.due("all the same", 2, withLaw(100, 2, "").size(0, 0, 9, 0));
        c.due("by the length: 2 from 34 on", 34, withLaw(100, 2, "").size(0, 0, 9, 1));
        c.due("all are 1 long from 6 on", 6, withLaw(10, 2, "").size(0, 0, 9, 9999));
        c.due("9 long is 40 alone", 40, withLaw(390, 2, "").size(0, 0, 9, 9999));
        c.due("1 errs by nothing, but is none of them", 2, withLaw(100, 2, "eddy 1;").size(0, 0, 9, 0));
        // no ERROR where the model pulls nothing and the ship neither: 10 long from 36 on, 9 long at 40
        c.due("36 before 37 to 40", 36, withLaw(390, 2, "eddy 1 if length>10 and length<390;").size(0, 0, 9, 0));
        c.due("40 alone", 40, withLaw(390, 2, "eddy 1 if length>9 and length<390;").size(0, 0, 9, 0));
        // ERROR 8 and 2 times 50 are 108 at 2; 27 and 2 times 33 are 93 at 3; 64 and 50 are 114 at 4
        c.due("least together", 3, withLaw(100, 2, "eddy 1 if length<100;").size(0, 0, 9, 2));
        // 8 and 50 are 58 at 2; 27 and 33 are 60 at 3
        c.due("least together", 2, withLaw(100, 2, "eddy 1 if length<100;").size(0, 0, 9, 1));
        TankHulls x = withLaw(100, 2, "eddy 1 if length=50;eddy 1 if length=33;eddy 5 if length<33;");
        Checks.way(x, "add 17;");
        // the SHIP pulls 0: NEED 25 at 2, 44 at 3; COIN 1: 75 and 77; at COIN 2: 125 and 110
        c.due("with add", 2, x.size(0, 1, 9, 1));
        c.due("with add", 3, x.size(0, 1, 9, 2));
    }

    /** "of speeds 1 to 99 .. greatest less the least PULL of LAWS that FIT is greatest; of these the least". */
    private static void telling() {
        c.due("no difference", 1, told("eddy 5;", "eddy 5;"));
        c.due("1 alone", 1, told("eddy 5;", "eddy 6 if speed=1;eddy 5 if speed>1;"));
        c.due("99 alone", 99, told("eddy 5;", "eddy 5;eddy 6 if speed=99;"));
        c.due("98 before 99", 98, told("eddy 5;", "eddy 5;eddy 6 if speed>97;"));
        c.due("of both sides the least speed", 20, told("eddy 50;", "eddy 50;eddy 40 if speed=20;eddy 60 if speed=30;"));
        c.due("the greater one", 30, told("eddy 50;", "eddy 50;eddy 40 if speed=20;eddy 61 if speed=30;"));
        TankHulls x = withLaw(100, 2, "eddy 50;eddy 45 if speed=20;");
        Checks.law(x, "eddy 50;eddy 55 if speed=20;eddy 59 if speed=30;");
        Checks.law(x, "eddy 50;eddy 59 if speed=40;");
        c.due("greatest less least of all three", 20, x.telling(0));
        x.run(50);
        c.due("the same with a RUN that all FIT", 20, x.telling(0));
        x.set(0, 1, 20, -1);
        x.run(45);
        c.due("only one FITS", -1, x.telling(0));
        // 5 hundredths of 50 are 2, of 55 too: only within 10 does the third FIT, within 19 the second
        c.due("9 hundredths", -1, x.telling(9));
        c.due("the first and the third", 40, x.telling(10));
        c.due("all three", 20, x.telling(19));
    }

    private static int told(String one, String other) {
        TankHulls x = withLaw(100, 2, one);
        c.due("the other LAW", 1, Checks.law(x, other));
        return x.telling(0);
    }

    private static void isBetter(TankHulls x, long pull, long kind, long gives, long gets) {
        c.due("the PULL then", pull, x.better(0, -1));
        c.due("the kind", kind, x.better(0, 0));
        c.due("the STATION that gives", gives, x.better(0, 1));
        c.due("the STATION that gets", gets, x.better(0, 2));
    }

    /** "of these the first (kind, STATION that gives, STATION that gets)". */
    private static void betterByPlace() {
        isBetter(withLaw(100, 3, "eddy 100-beam;"), 89, 0, 0, 1);
        isBetter(withLaw(100, 3, "eddy 100-draft;"), 94, 1, 0, 1);
        isBetter(withLaw(100, 3, "eddy 100-beam-draft;"), 84, 0, 0, 1);
        TankHulls x = withLaw(100, 3, "eddy 100-beam;");
        x.station(0, 0, 0, 5);
        // the first has none to give: of the others the second gives, to the third
        isBetter(x, 89, 0, 1, 2);
        TankHulls y = withLaw(100, 3, "eddy beam;");
        y.station(0, 2, 12, 5);
        // only what the last gives shows: of those that get the first
        isBetter(y, 11, 0, 2, 0);
    }

    /** "of EXCHANGES by which PULL is less the one of the least PULL". */
    private static void betterByPull() {
        isBetter(withLaw(100, 3, "eddy 100-beam-2*draft;"), 78, 1, 0, 1);
        TankHulls x = withLaw(100, 3, "eddy 100-beam;");
        x.station(0, 2, 12, 5);
        // the last is the widest: what it gets shows, what others get does not
        isBetter(x, 87, 0, 0, 2);
        TankHulls y = withLaw(100, 3, "eddy 100-beam;");
        y.station(0, 1, 12, 5);
        isBetter(y, 87, 0, 0, 1);
        TankHulls z = withLaw(100, 3, "eddy 100-beam;");
        z.station(0, 0, 12, 5);
        isBetter(z, 87, 0, 1, 0);
    }

    /** "NONE: there is none", for each what. */
    private static void equalIsNotBetter() {
        TankHulls x = withLaw(100, 3, "eddy 100;");
        isBetter(x, -1, -1, -1, -1);
        TankHulls more = withLaw(100, 3, "eddy beam+draft;");
        isBetter(more, -1, -1, -1, -1);
        TankHulls nothing = withLaw(100, 3, "eddy beam-11;");
        nothing.station(0, 2, 12, 5);
        isBetter(nothing, 0, 0, 2, 0);
        c.due("a PULL of 0 is found", 1, nothing.lines(0, 20));
        isBetter(nothing, -1, -1, -1, -1);
    }

    /** Promise 17: "The least SCALE for which that is at most o". */
    private static void widestIsLeast() {
        TankHulls x = withLaw(390, 2, "eddy 100;eddy 101 if side>0 and not [length=195 or length=130];");
        x.station(0, 0, 60, 60);
        x.tank(1, 1);
        x.set(0, 30, 5, 0);
        c.due("2 before 3", 2, x.widest(0, 0));
        c.due("1 before 2", 1, x.widest(0, 1));
        Checks.law(x, "eddy 100;eddy 99 if side>0;");
        c.due("less than in open water is at most 0", 1, x.widest(1, 0));
    }

    /** "of all sorted the one in the middle (the lower one of two)". */
    private static void middle() {
        int[][] ratios = {{5}, {5, 9}, {9, 5}, {9, 5, 7}, {9, 9, 5}, {4, 1, 3, 2}, {7, 7, 8, 8}, {8, 8, 7, 7}, {1, 8, 8, 8}};
        int[] want = {5, 5, 5, 7, 9, 2, 7, 7, 8};
        for (int i = 0; i < want.length; i++) {
            TankHulls x = new TankHulls();
            for (int ratio : ratios[i]) {
                x.earlier(1000, ratio);
            }
            c.due("MIDDLE of row " + i, want[i], x.ratio(-1));
        }
        TankHulls x = new TankHulls();
        for (int i = 19; i >= 0; i--) {
            x.earlier(1000, i);
        }
        c.due("MIDDLE of 20", 9, x.ratio(-1));
    }

    /** "the VALUE of the last CLAUSE of it whose C holds (or that has none)". */
    private static void lastClause() {
        c.due("the last", 3, eddyOf("eddy 1;eddy 2;eddy 3;"));
        c.due("the last that holds", 2, eddyOf("eddy 1;eddy 2 if 1=1;eddy 3 if 1=2;"));
        c.due("the last has none", 3, eddyOf("eddy 1 if 1=1;eddy 2 if 1=1;eddy 3;"));
        c.due("the last of that word", 2, eddyOf("eddy 1;eddy 2;wave 3;"));
        c.due("the 16th", 16, eddyOf("eddy 1;".repeat(15) + "eddy 16;"));
        c.due("none that holds", 0, eddyOf("eddy 1 if 1=2;eddy 2 if 2<1;"));
    }

    private static long eddyOf(String law) {
        return withLaw(100, 2, law).pull(0, 3);
    }

    /** "(0 to 60 stay)". */
    private static void exchangesKeepWithin() {
        TankHulls x = withLaw(100, 2, "eddy 1000-beam*3;");
        lines(x, 59, 5, 1, 5);
        isBetter(x, 1000 - 180, 0, 1, 0);
        lines(x, 60, 5, 1, 5);
        c.due("60 is the last", -1, x.better(0, -1));
        lines(x, 59, 5, 0, 5);
        c.due("0 is the least", -1, x.better(0, -1));
        TankHulls y = withLaw(100, 2, "eddy 1000-draft*3;");
        lines(y, 5, 59, 5, 1);
        isBetter(y, 1000 - 180, 1, 1, 0);
        lines(y, 5, 60, 5, 1);
        c.due("60 is the last", -1, y.better(0, -1));
        lines(y, 5, 59, 5, 0);
        c.due("0 is the least", -1, y.better(0, -1));
    }

    private static void lines(TankHulls x, int beam, int draft, int otherBeam, int otherDraft) {
        x.station(0, 0, beam, draft);
        x.station(0, 1, otherBeam, otherDraft);
    }

    /** "volume at SCALE 1 not being less than before". */
    private static void exchangesKeepVolume() {
        // volume 50 times the sum of BEAM times DRAFT
        TankHulls x = withLaw(100, 2, "eddy beam;");
        lines(x, 20, 5, 10, 5);
        isBetter(x, 19, 0, 0, 1);
        lines(x, 20, 5, 10, 6);
        isBetter(x, 19, 0, 0, 1);
        lines(x, 20, 5, 10, 4);
        c.due("less volume", -1, x.better(0, -1));
        TankHulls y = withLaw(100, 2, "eddy draft;");
        lines(y, 5, 20, 5, 10);
        isBetter(y, 19, 1, 0, 1);
        lines(y, 5, 20, 4, 10);
        c.due("less volume", -1, y.better(0, -1));
    }

    /** The volume is that of the SHIP, cut, whatever the SCALE at hand is. */
    private static void volumeIsTheShips() {
        TankHulls x = withLaw(100, 2, "eddy beam;");
        lines(x, 20, 5, 10, 4);
        x.set(0, 10, 1, -1);
        // at the SCALE 10 the volume is 7 before and 6 after, beam 2 and 1
        c.due("less volume of the SHIP", -1, x.better(0, -1));
        lines(x, 20, 5, 13, 4);
        // of the model 7 before and after, of the SHIP 7,600 and 7,550
        c.due("the model's volume does not count", -1, x.better(0, -1));
        TankHulls y = withLaw(10, 2, "eddy beam;");
        lines(y, 20, 5, 13, 4);
        // the SHIP is 10 long: 7.6 and 7.55 are both cut to 7
        isBetter(y, 1, 0, 0, 1);
    }

    /** "one more at another one": a volume that grows is not less than before. */
    private static void otherStation() {
        TankHulls x = withLaw(100, 2, "eddy 1000-volume/50;");
        lines(x, 10, 9, 10, 5);
        // a BEAM to the deeper one: the sum 140 becomes 144
        isBetter(x, 1000 - 144, 0, 1, 0);
    }

    /** Promise 30: "So many BETTER EXCHANGES are made at most (0 to 20): how many". */
    private static void linesOfBetter() {
        for (int many : new int[] {0, 1, 19, 20}) {
            TankHulls x = withLaw(100, 2, "eddy beam;");
            lines(x, 60, 5, 0, 5);
            c.due("EXCHANGES", many, x.lines(0, many));
            c.due("the PULL then", 60 - many, x.pull(0, 0));
            c.due("lines of the one", 100 * (60 - many) + 5, x.station(0, 0, 1, 1));
            c.due("lines of the other", 100 * many + 5, x.station(0, 1, 1, 1));
        }
    }

    /** They end where none is BETTER: 19 of 20, 20 of 20, 20 of 21. */
    private static void linesStop() {
        for (int apart = 19; apart <= 21; apart++) {
            TankHulls x = withLaw(100, 2, "eddy beam;");
            lines(x, 10 + 2 * apart, 5, 10, 5);
            c.due("EXCHANGES of " + apart, Math.min(20, apart), x.lines(0, 20));
            c.due("EXCHANGES that are left", apart - Math.min(20, apart), x.lines(0, 20));
            c.due("none is left", 0, x.lines(0, 20));
            c.due("the PULL then", 10 + apart, x.pull(0, 0));
        }
    }
}
