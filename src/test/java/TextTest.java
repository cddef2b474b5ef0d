/** Promises 6 to 8: the TAPE, LAWS and WAYS as texts, FAULTS and their places; and what the texts tell (12). */
public final class TextTest {
    private static final Checks c = new Checks();

    public static void main(String[] args) {
        tape();
        shelves();
        oneShelfFull();
        faultsOfWords();
        faultsOfEnds();
        faultsOfNumbers();
        faultsOfClauses();
        faultsOfDepth();
        faultOfTheLatest();
        values();
        conditions();
        told();
        c.finish();
    }

    private static void tape() {
        TankHulls x = new TankHulls();
        for (int i = 1; i <= 20; i++) {
            c.due("feed " + i, 20 * i, x.feed(i, i, i, i, i));
        }
        c.due("a 21st feed", -1, x.feed(1, 1, 1, 1, 1));
        c.due("bytes stay", 400, x.count(9));
        c.throwsDue("law(401)", Checks.ARGUMENT, () -> x.law(401, false));
        c.throwsDue("law(-1)", Checks.ARGUMENT, () -> x.law(-1, false));
        c.due("the tape stays", 400, x.count(9));
        c.due("law(0)", 0, x.law(0, false));
        c.due("the tape is empty", 0, x.count(9));
        c.throwsDue("law(1) of an empty tape", Checks.ARGUMENT, () -> x.law(1, false));
        // highest byte first, each number after the other
        x.feed(0x65646479, 0x20343B00, 0, 0, 0);
        c.due("eddy 4;", 1, x.law(7, false));
        x.hull(100, 2);
        c.due("its eddy", 4, x.pull(1, 3));
        x.feed(0x80FFFFFF, 0, 0, 0, 0);
        c.due("bytes above 127", -9, x.law(1, false));
        StringBuilder longest = new StringBuilder("eddy 1");
        while (longest.length() < 398) {
            longest.append("+1");
        }
        longest.append(" ;");
        c.due("a text of 400 bytes", 2, Checks.law(x, longest.substring(0, 398) + " ;"));
        c.due("its eddy", 197, x.pull(2, 3));
    }

    private static void shelves() {
        TankHulls x = new TankHulls();
        for (int i = 0; i < 4; i++) {
            c.due("law " + i, i, Checks.law(x, "skin 1;"));
        }
        noRoom(x, false);
        for (int i = 0; i < 3; i++) {
            c.due("way " + i, i, Checks.way(x, "add 1;"));
        }
        noRoom(x, true);
        noRoom(x, false);
        c.due("laws", 4, x.count(2));
        c.due("ways", 3, x.count(3));
    }

    /** Without room every text is answered -1, a faulty one too, and has no FAULT. */
    private static void noRoom(TankHulls x, boolean way) {
        String kind = way ? "way" : "law";
        String[] texts = {"", way ? "add 1;" : "skin 1;", "?", "skin", "off 10000;", clauses(17), "skin (((((((1)))))));"};
        for (String text : texts) {
            c.due("no room for the " + kind + " '" + text + "'", -1, Checks.text(x, text, way));
            c.due("no fault of it", -1, x.fault());
            c.due("the tape is empty", 0, x.count(9));
        }
        c.throwsDue("more bytes than there are, without room", Checks.ARGUMENT, () -> x.law(1, way));
        c.throwsDue("fewer than none, without room", Checks.ARGUMENT, () -> x.law(-1, way));
    }

    /** A FAULT on one shelf that has room is told, though the other is full, and gone with the next -1. */
    private static void oneShelfFull() {
        TankHulls x = new TankHulls();
        for (int i = 0; i < 3; i++) {
            x.law(0, true);
        }
        c.due("a faulty law beside full ways", -9, Checks.law(x, "skin"));
        c.due("its place", 4, x.fault());
        c.due("a faulty fourth way", -1, Checks.way(x, "?"));
        c.due("no fault of it", -1, x.fault());
        c.due("a law beside full ways", 0, Checks.law(x, "skin 1;"));

        TankHulls y = new TankHulls();
        for (int i = 0; i < 4; i++) {
            y.law(0, false);
        }
        c.due("a faulty way beside full laws", -8, Checks.way(y, " off 10000;"));
        c.due("its place", 5, y.fault());
        c.due("a faulty fifth law", -1, Checks.law(y, "?"));
        c.due("no fault of it", -1, y.fault());
        c.due("a way beside full laws", 0, Checks.way(y, "off 1;"));
    }

    private static void fault(String text, boolean way, int kind, int place) {
        TankHulls x = new TankHulls();
        c.due("'" + text + "'", kind == 0 ? 0 : kind - 10, Checks.text(x, text, way));
        c.due("fault of '" + text + "'", place, x.fault());
        c.due("kept of '" + text + "'", kind == 0 ? 1 : 0, x.count(way ? 3 : 2));
    }

    private static void good(String text) {
        fault(text, false, 0, -1);
    }

    private static void bad(String text, int place) {
        fault(text, false, 1, place);
    }

    private static void faultsOfWords() {
        good("");
        good("   ");
        good("skin 1;wave 2;eddy 3;sides 4;foul 5;");
        good("  skin  (  1 + 2 )  *  3  if  [  1  <  2  ]  and  not  3  =  4  ;  ");
        good("skin1;skin(2);wave1if1<2;");
        good("skin most(1,2)+least(3,4)*root(5);");
        good("skin length+speed+wet+volume+beam+draft+fn+wire+side+months;");
        fault("off 1;add 2;more 3;", true, 0, -1);
        fault("skin 1;", true, 1, 0);
        fault("off 1; sides 1;", true, 1, 7);
        bad("off 1;", 0);
        bad("add 1;", 0);
        bad("more 1;", 0);
        bad("skins 1;", 0);
        bad("ski 1;", 0);
        bad("skinz 1;", 0);
        bad("askin 1;", 0);
        bad("skin{1;", 4);
        bad("skin`1;", 4);
        bad("skin:1;", 4);
        bad("Skin 1;", 0);
        bad("sKin 1;", 0);
        bad("skiN 1;", 0);
        bad("length 1;", 0);
        bad(";", 0);
        bad("skin 1;;", 7);
        bad("skin wets;", 5);
        bad("skin skin;", 5);
        bad("skin if;", 5);
        bad("skin wet beam;", 9);
        bad("skin wetbeam;", 5);
        bad("skin 1 2;", 7);
        bad("skin fn2;", 7);
        bad("skin\t1;", 4);
        bad("skin 1\n;", 6);
        bad("skin -1;", 5);
        bad("skin 1+;", 7);
        bad("skin 1+*2;", 7);
        bad("skin ();", 6);
        bad("skin (1;", 7);
        bad("skin 1);", 6);
        bad("skin [1];", 5);
        bad("skin least(1);", 12);
        bad("skin least(1,2,3);", 14);
        bad("skin root(1,2);", 11);
        bad("skin root 4;", 10);
        bad("skin root;", 9);
        bad("skin root+1;", 9);
        bad("skin 2*least;", 12);
        bad("skin most*2;", 9);
        bad("skin 1 if root<2;", 14);
        bad("skin rooted;", 5);
        bad("skin 1.5;", 6);
        bad("skin 1 < 2;", 7);
        bad("skin 1 or 2;", 7);
        bad("skin 1 if 2;", 11);
        bad("skin 1 if 1<2<3;", 13);
        bad("skin 1 if 1<2 if 1<2;", 14);
        bad("skin 1 if (1<2);", 12);
        bad("skin 1 if [1<2;", 14);
        bad("skin 1 if [1];", 12);
        bad("skin 1 if [1<2]<3;", 15);
        bad("skin 1 if not 1;", 15);
        bad("skin 1 if 1<=2;", 12);
        bad("skin 1 if 1<2 and;", 17);
        bad("skin 1 if or 1<2;", 10);
        bad("skin 1 if 1<2 not 1<2;", 14);
        bad("skin 1 if ;", 10);
        bad("skin 1 iff 1<2;", 7);
    }

    private static void faultsOfEnds() {
        bad("skin", 4);
        bad("skin ", 5);
        bad("skin 5", 6);
        bad("skin 5   ", 9);
        bad("skin 5 if", 9);
        bad("skin 5 if 1", 11);
        bad("skin 5 if 1<2", 13);
        bad("skin 5 if not", 13);
        bad("skin (", 6);
        bad("skin least(1,", 13);
        bad("skin root", 9);
    }

    private static void faultsOfNumbers() {
        good("skin 9999;");
        good("skin 0000000000000000000000000009999;");
        fault("skin 10000;", false, 2, 5);
        fault("skin  00010000;", false, 2, 6);
        fault("skin 99999999999999999999999;", false, 2, 5);
        fault("skin 4294967296;", false, 2, 5);
        fault("skin 1+10000 oops", false, 2, 7);
        bad("skin 1 10000;", 7);
        bad("10000", 0);
        fault("more 10001;", true, 2, 5);
    }

    private static String clauses(int many) {
        StringBuilder text = new StringBuilder();
        for (int i = 0; i < many; i++) {
            text.append("eddy 1;");
        }
        return text.toString();
    }

    private static void faultsOfClauses() {
        good(clauses(16));
        good(clauses(16) + "   ");
        fault(clauses(17), false, 3, 112);
        fault(clauses(16) + "  wave 10000", false, 3, 114);
        fault(clauses(16) + "off 1;", false, 1, 112);
        fault(clauses(16) + "eddie 1;", false, 1, 112);
        fault(clauses(16) + ";", false, 1, 112);
        fault(clauses(15) + "eddy ;" + clauses(3), false, 1, 110);
    }

    private static void faultsOfDepth() {
        good("skin ((((((1))))));");
        good("skin ((((((1))))))+((((((1))))));");
        fault("skin (((((((1)))))));", false, 3, 11);
        fault("skin ((((((1))))))+((((( ((1)))))));", false, 3, 26);
        good("skin root(root(root(root(root(root(1))))));");
        fault("skin root(root(root(root(root(root(root(1)))))));", false, 3, 39);
        fault("skin ((((((root 1;", false, 1, 16);
        fault("skin ((((((least(1,2);", false, 3, 16);
        good("eddy 1 if not not not not not not 1=1;");
        fault("eddy 1 if not not not not not not not 1=1;", false, 3, 34);
        good("eddy 1 if [[[[[[1=1]]]]]];");
        fault("eddy 1 if [[[[[[[1=1]]]]]]];", false, 3, 16);
        good("eddy 1 if not[not[not(1)=(1)]] and [[[[[[1=1]]]]]];");
        fault("eddy 1 if not[not[not[(1)=1]]];", false, 3, 22);
        good("eddy 1 if not not not not not not 1=1 and not not not not not not 1=1;");
        fault("eddy 1 if not not not not not not 1=(1);", false, 3, 36);
        bad("eddy 1 if [[[[[[]", 16);
        bad("skin ((((((1[", 12);
        bad("skin ((((((1(", 12);
        bad("skin (((((([", 11);
        bad("eddy 1 if [[[[[[1 not", 18);
        good("skin 1 if ((1))=((1)) or [((1))=1];");
    }

    private static void faultOfTheLatest() {
        TankHulls x = new TankHulls();
        Checks.law(x, "skin x;");
        c.due("fault", 5, x.fault());
        c.due("fault again", 5, x.fault());
        x.feed(0, 0, 0, 0, 0);
        c.due("fault after a feed", 5, x.fault());
        c.due("a good law", 0, x.law(0, false));
        c.due("no fault then", -1, x.fault());
        Checks.way(x, "off ;");
        c.due("fault of a way", 4, x.fault());
    }

    /** E as the skin of a LAW on a HULL of length 100 at speed 6. */
    private static void value(String e, long want) {
        TankHulls x = new TankHulls();
        x.hull(100, 2);
        x.set(0, 1, 6, -1);
        c.due("'" + e + "' is a law", 0, Checks.law(x, "skin " + e + ";"));
        c.due("'" + e + "'", want, x.pull(0, 1));
    }

    private static void values() {
        value("2+3*4", 14);
        value("(2+3)*4", 20);
        value("20-3-4", 13);
        value("100/7/2", 7);
        value("100/7*7", 98);
        value("7/0", 0);
        value("7/0+5", 5);
        value("3-5+10", 8);
        value("(3-10)/2+10", 7);
        value("3-5", 0);
        value("least(3,5)+most(3,5)*10", 53);
        value("least(0-3,5)+10", 7);
        value("root(0)", 0);
        value("root(3)", 1);
        value("root(4)", 2);
        value("root(99)", 9);
        value("root(0-4)", 0);
        value("root(9999*9999)", 9999);
        value("root(9999*9999-1)", 9998);
        value("root(9999*9999*9999*9999)/10", 9998000);
        value("wet+speed+length+beam+draft", 2000 + 6 + 100 + 10 + 5);
        value("fn+volume", 36 + 5000);
        value("9999*9999*9999", 1000000000L);
        value("0-9999*9999*9999*9999*9999", 0);
        value("9999*9999*9999*9999*9999", 1000000000L);
        // 2 to the power of 63 is the least of all; less 1 it is the greatest; by -1 it is itself
        String big = "(4096*4096*4096*4096*4096*8)";
        value(big, 0);
        value(big + "-1", 1000000000L);
        value(big + "/(0-1)", 0);
        value("root(" + big + "-1)-3037*1000*1000", 499);
        value("root(" + big + ")+1", 1);
        value("4096*4096*4096*4096*4096*16+7", 7);
    }

    private static void holds(String condition, boolean want) {
        TankHulls x = new TankHulls();
        x.hull(100, 2);
        c.due("'if " + condition + "' is a law", 0, Checks.law(x, "eddy 5 if " + condition + ";"));
        c.due("'if " + condition + "'", want ? 5 : 0, x.pull(0, 3));
    }

    private static void conditions() {
        holds("1<2", true);
        holds("2<2", false);
        holds("2>1", true);
        holds("2>2", false);
        holds("2=2", true);
        holds("2=3", false);
        holds("0-1<0", true);
        holds("not 1=1", false);
        holds("not not 1=1", true);
        holds("1=1 or 1=1 and 1=2", true);
        holds("[1=1 or 1=1] and 1=2", false);
        holds("1=2 and 1=1 or 1=1", true);
        holds("not 1=2 and 1=2", false);
        holds("not [1=2 and 1=2]", true);
        holds("not 1=1 or 1=1", true);
        holds("1+1=2 and 2*3>5", true);
        holds("wire=0 and side=0 and months=0", true);
    }

    private static void told() {
        TankHulls x = new TankHulls();
        x.hull(100, 2);
        Checks.law(x, "skin 1;skin 2;skin 3 if 1=2;wave 4;wave 0-4;eddy 9 if speed>1;");
        c.due("the last that holds", 2, x.pull(0, 1));
        c.due("the last one, 0 at least", 0, x.pull(0, 2));
        c.due("none that holds", 0, x.pull(0, 3));
        Checks.law(x, "skin 100;foul 9999*9;sides 9999*9;");
        c.due("foul is 10,000 at most", 100 + 10000, x.pull(1, 1));
        c.due("sides is 10,000 at most", 10100 + 1010000, x.pull(1, 0));
        Checks.law(x, "skin 9999*9999*99;wave 9999*9999*99;eddy 9999*9999*99;foul 9999*9;sides 9999*9;");
        c.due("the greatest skin", 101000000000L, x.pull(2, 1));
        c.due("the greatest wave", 1000000000L, x.pull(2, 2));
        c.due("the greatest all", 103000000000L, x.pull(2, 4));
        c.due("the greatest pull", 10403000000000L, x.pull(2, 0));
    }
}
