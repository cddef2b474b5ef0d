/**
 * Promises 7 and 8 and what the document says of texts: the bounds of N, CLAUSES and what is open, the first
 * FAULT from the left, of one place the least, and the place of each.
 */
public final class FaultsTest {
    private static final Checks c = new Checks();
    private static final String SIXTEEN = "eddy 1;".repeat(16);

    public static void main(String[] args) {
        numbers();
        clauses();
        clausesOfWays();
        openOnes();
        openMixed();
        closedAgain();
        notsEnd();
        placeOfTheSeventh();
        firstFromTheLeft();
        ofOneTheLeast();
        endsTooEarly();
        blanks();
        otherBytes();
        wordsAsLong();
        wordsOfEach();
        onlyTheFirstBytes();
        lengths();
        latestFault();
        c.finish();
    }

    private static void fault(String text, boolean way, int kind, int place) {
        TankHulls x = new TankHulls();
        c.due("'" + text + "'", kind == 0 ? 0 : kind - 10, Checks.text(x, text, way));
        c.due("the place in '" + text + "'", place, x.fault());
        c.due("kept of '" + text + "'", kind == 0 ? 1 : 0, x.count(way ? 3 : 2));
        c.due("the TAPE after '" + text + "'", 0, x.count(9));
    }

    private static void law(String text, int kind, int place) {
        fault(text, false, kind, place);
    }

    private static void good(String text) {
        law(text, 0, -1);
    }

    /** "N (0 to 9,999)"; "2 an N above 9,999"; "digits, as many as stand there". */
    private static void numbers() {
        good("skin 0;");
        good("skin 9999;");
        good("skin 00000000009999;");
        good("skin 1 if 9999=9999;");
        law("skin 10000;", 2, 5);
        law("skin 000000000010000;", 2, 5);
        law("skin 99991;", 2, 5);
        law("skin 1 if 1<10000;", 2, 12);
        law("skin least(1,10000);", 2, 13);
        law("skin 2147483648;", 2, 5);
        law("skin 4294967297;", 2, 5);
        law("skin 18446744073709551617;", 2, 5);
        law("skin " + "9".repeat(390) + ";", 2, 5);
        good("skin " + "0".repeat(390) + "1;");
        fault("off 9999;", true, 0, -1);
        fault("off 10000;", true, 2, 4);
    }

    /** "At most 16 CLAUSES"; "3 a 17th CLAUSE". */
    private static void clauses() {
        good("eddy 1;".repeat(15));
        good(SIXTEEN);
        good(SIXTEEN + "  ");
        law(SIXTEEN + "eddy 1;", 3, 112);
        law(SIXTEEN + "  eddy 1;", 3, 114);
        law(SIXTEEN + "skin", 3, 112);
        law(SIXTEEN + "skin 10000;", 3, 112);
        law(SIXTEEN + "eddy 1;".repeat(9), 3, 112);
        law("skin 1;wave 2;eddy 3;sides 4;foul 5;".repeat(3) + "skin 1;wave 2;", 3, 36 * 3 + 7);
    }

    private static void clausesOfWays() {
        fault("add 1;".repeat(16), true, 0, -1);
        fault("add 1;".repeat(17), true, 3, 96);
        fault("add 1;".repeat(16) + "more 1;", true, 3, 96);
        fault("add 1;".repeat(16) + "eddy 1;", true, 1, 96);
    }

    /** "a 7th of ( [ and not that is open at one time". */
    private static void openOnes() {
        String[] opening = {"(", "root(", "least(", "most("};
        String[] closing = {")", ")", ",1)", ",1)"};
        for (int i = 0; i < opening.length; i++) {
            good("skin " + opening[i].repeat(6) + "1" + closing[i].repeat(6) + ";");
            law("skin " + opening[i].repeat(7) + "1" + closing[i].repeat(7) + ";", 3, 5 + 7 * opening[i].length() - 1);
        }
        good("skin 1 if " + "[".repeat(6) + "1=1" + "]".repeat(6) + ";");
        law("skin 1 if " + "[".repeat(7) + "1=1" + "]".repeat(7) + ";", 3, 16);
        good("skin 1 if " + "not ".repeat(6) + "1=1;");
        law("skin 1 if " + "not ".repeat(7) + "1=1;", 3, 34);
        // inside the second E of least and most, and on the right of a sign
        good("skin most(1,(((((2))))));");
        law("skin most(1,((((((2)))))));", 3, 17);
        good("skin 1+2*((((((3))))));");
        law("skin 1+2*(((((((3)))))));", 3, 15);
        fault("off ((((((1))))));", true, 0, -1);
        fault("off (((((((1)))))));", true, 3, 10);
    }

    private static void openMixed() {
        good("skin 1 if not [not [((1))=1]];");
        law("skin 1 if not [not [(((1)))=1]];", 3, 22);
        good("skin 1 if not [not [not [1=1]]];");
        law("skin 1 if not [not [not [(1)=1]]];", 3, 25);
        law("skin 1 if not [not [not [not 1=1]]];", 3, 25);
        law("skin 1 if not [not [not [[1=1]]]];", 3, 25);
        good("skin 1 if [[[[[(1)=(1)]]]]];");
        law("skin 1 if [[[[[(1)=((1))]]]]];", 3, 20);
        good("skin 1 if not not not not not root(4)=2;");
        law("skin 1 if not not not not not not root(4)=2;", 3, 38);
    }

    /** What is closed is not open any more. */
    private static void closedAgain() {
        good("skin ((((((1))))))*((((((1))))))-root(((((2)))));");
        good("skin " + "(1)+".repeat(20) + "1;");
        good("skin 1 if " + "[1=1] and ".repeat(9) + "[[[[[[1=1]]]]]];");
        good("skin ((((((1))))));wave ((((((1)))))) if [[[[[[1=1]]]]]];");
        law("skin ((((((1)))))) if [[[[[[1=1]]]]]] or [[[[[[[1=1]]]]]]];", 3, 47);
        // five are open when the sixth is closed, opened again, and a seventh comes
        good("skin (((((1)+(1)+((2))))));");
        law("skin (((((1+(1)+((1)))))));", 3, 17);
    }

    /** "(a not till its B ends)": behind and, or, ] it is open no more. */
    private static void notsEnd() {
        good("skin 1 if not not not not not not 1=1 and not not not not not not 1=1;");
        good("skin 1 if not not not not not not 1=1 or [[[[[[1=1]]]]]];");
        good("skin 1 if [not not not not not 1=1] and [not not not not not 1=1];");
        good("skin 1 if not [1=1] and not not not not not not 1=1;");
        // within its B it is open: on the right of the sign too, and inside its brackets behind and
        law("skin 1 if not not not not not not 1=(1);", 3, 36);
        good("skin 1 if not not not not not 1=(1);");
        law("skin 1 if not not not [1=1 and not not not 1=1];", 3, 39);
        good("skin 1 if not not not [1=1 and not not 1=1];");
    }

    /** It is the bracket itself, not the word ahead of it, nor the blanks. */
    private static void placeOfTheSeventh() {
        law("skin ((((((root(1)))))));", 3, 15);
        law("skin ((((((least(1,2)))))));", 3, 16);
        law("skin ((((((most   (1,2)))))));", 3, 18);
        law("skin ((((((   (1)))))));", 3, 14);
        law("skin 1 if [[[[[[   not 1=1]]]]]];", 3, 19);
        law("skin ((((((root 1)))))));", 1, 16);
    }

    /** "the first from the left, at its first byte". */
    private static void firstFromTheLeft() {
        law("skin 10000 10000;", 2, 5);
        law("skin x 10000;", 1, 5);
        law("skin 10000+x;", 2, 5);
        law("skin x+10000;", 1, 5);
        law("skin 10000+(((((((1)))))));", 2, 5);
        law("skin (((((((10000)))))));", 3, 11);
        law("skin ((((((10000))))));", 2, 11);
        law("skin 1;wave abc;eddy 10000;", 1, 12);
        law("skin 1;wave 10000;eddy abc;", 2, 12);
        law("eddy 1;".repeat(15) + "eddy 10000;eddy 1;", 2, 110);
        law("eddy 1;".repeat(15) + "eddy 1 1;eddy 1;", 1, 112);
        law("eddy 1;".repeat(15) + "eddy 1", 1, 111);
    }

    /** "of one the least": what can't stand there is 1, though it is a large N, a 17th or a 7th too. */
    private static void ofOneTheLeast() {
        law("10000", 1, 0);
        law("skin 1 10000;", 1, 7);
        law("skin (1)10000;", 1, 8);
        law("skin 1 if 1=1 10000;", 1, 14);
        law(SIXTEEN + "off 1;", 1, 112);
        law(SIXTEEN + "skinny 1;", 1, 112);
        law(SIXTEEN + "10000", 1, 112);
        law(SIXTEEN + ";", 1, 112);
        law(SIXTEEN + "(", 1, 112);
        law("skin ((((((1(", 1, 12);
        law("skin (((((([1=1", 1, 11);
        law("skin ((((((not", 1, 11);
        law("skin 1 if [[[[[[1=1[", 1, 19);
        law("skin 1 if [[[[[[1=1 not", 1, 20);
        law("skin 1 if [[[[[[1 (", 1, 18);
    }

    /** "(at the length, if the text ends too early)": for every beginning of a text but whole CLAUSES. */
    private static void endsTooEarly() {
        String text = "skin least ( 1 , root(2)) * 3 / length - 4 if not [ 1 < 2 or wet > 3 ] and beam = 4 ;";
        good(text);
        for (int n = 1; n < text.length(); n++) {
            boolean inWord = Character.isLetter(text.charAt(n - 1)) && Character.isLetter(text.charAt(n));
            if (!inWord) {
                law(text.substring(0, n), 1, n);
            }
        }
        law("skin", 1, 4);
        law("skin 5", 1, 6);
        law("skin 5     ", 1, 11);
        law("skin 1;skin", 1, 11);
        law("skin 1;skin 5 if 1=1", 1, 20);
        // a word that is cut off is not the end of the text, but no word
        law("ski", 1, 0);
        law("skin leas", 1, 5);
        law("skin 1 i", 1, 7);
        fault("off", true, 1, 3);
        fault("of", true, 1, 0);
    }

    /** "blanks (32) may stand ahead of all these, and at the end"; not inside of one. */
    private static void blanks() {
        good("");
        good(" ");
        good(" ".repeat(400));
        good("  skin  1  ;  ");
        good("skin(1);wave(2)if(1)=(1);");
        good("skin1;");
        good("skin 1if1=1and2=2or3=3;");
        law("sk in 1;", 1, 0);
        law("skin 1 2;", 1, 7);
        law("skin len gth;", 1, 5);
        law("skin 1 i f 1=1;", 1, 7);
        law(" ".repeat(7) + "x", 1, 7);
        law(" ".repeat(399) + ";", 1, 399);
    }

    /** 32 alone is a blank, small letters and digits alone are words and N. */
    private static void otherBytes() {
        for (char sign = 0; sign < 256; sign++) {
            boolean starts = sign == '(' || sign >= '0' && sign <= '9' || sign == ' ';
            law("skin " + sign + "1" + (sign == '(' ? ")" : "") + ";", starts ? 0 : 1, starts ? -1 : 5);
            boolean goesOn = "+-*/".indexOf(sign) >= 0 || sign >= '0' && sign <= '9';
            int place = sign == ' ' ? 7 : 6;
            // behind ; the 1 can't stand
            place = sign == ';' ? 7 : place;
            law("skin 1" + sign + "1;", goesOn ? 0 : 1, goesOn ? -1 : place);
            boolean relates = "<>=".indexOf(sign) >= 0;
            if (sign != ' ' && !goesOn) {
                law("skin 1 if 1" + sign + "1;", relates ? 0 : 1, relates ? -1 : 11);
            }
        }
    }

    /** "small letters of words, as many as stand there". */
    private static void wordsAsLong() {
        String[] names = {"length", "speed", "wet", "volume", "beam", "draft", "fn", "wire", "side", "months"};
        for (String name : names) {
            good("skin " + name + ";");
            law("skin " + name + "s;", 1, 5);
            law("skin a" + name + ";", 1, 5);
            law("skin " + name.substring(0, name.length() - 1) + ";", 1, 5);
            law("skin " + name.substring(1) + ";", 1, 5);
            law("skin " + name.toUpperCase() + ";", 1, 5);
            law(name + " 1;", 1, 0);
        }
        law("skin wetspeed;", 1, 5);
        law("skin sides;", 1, 5);
        law("side 1;", 1, 0);
        law("skin 1 ifwet=1;", 1, 7);
        law("skin 1 if notwet=1;", 1, 10);
        law("skin 1 if wet=1 andwet=1;", 1, 16);
        law("skinwet;", 1, 0);
        law("skin 1 if not1=1 nor 1=1;", 1, 17);
        good("skin 1 if not1=1;");
    }

    /** WORDS of LAWS stand in no WAY, those of WAYS in no LAW; none of either in an E. */
    private static void wordsOfEach() {
        for (String word : new String[] {"skin", "wave", "eddy", "sides", "foul"}) {
            good(word + " 1;");
            fault(word + " 1;", true, 1, 0);
            law("skin " + word + ";", 1, 5);
        }
        for (String word : new String[] {"off", "add", "more"}) {
            fault(word + " 1;", true, 0, -1);
            law(word + " 1;", 1, 0);
            law("skin " + word + ";", 1, 5);
            fault("off " + word + ";", true, 1, 4);
        }
        for (String word : new String[] {"if", "or", "and", "not", "least", "most", "root"}) {
            law(word + " 1;", 1, 0);
            fault(word + " 1;", true, 1, 0);
        }
        for (String word : new String[] {"if", "or", "and", "not"}) {
            law("skin " + word + ";", 1, 5);
            law("skin 1 if 1<" + word + ";", 1, 12);
        }
    }

    /** Promise 7: "The first n bytes of the TAPE". */
    private static void onlyTheFirstBytes() {
        TankHulls x = new TankHulls();
        x.hull(100, 2);
        Checks.feed(x, "eddy 1;eddy 2;eddy 3");
        c.due("the first of them", 0, x.law(7, false));
        c.due("its eddy", 1, x.pull(0, 3));
        Checks.feed(x, "eddy 1;eddy 2;eddy 3");
        c.due("the first two", 1, x.law(14, false));
        c.due("its eddy", 2, x.pull(1, 3));
        Checks.feed(x, "eddy 1;eddy 2;eddy 3");
        c.due("one byte less", -9, x.law(13, false));
        c.due("at its length, though bytes follow", 13, x.fault());
        Checks.feed(x, "eddy 1;eddy 2;eddy 3");
        c.due("all of them", -9, x.law(20, false));
        c.due("at its length", 20, x.fault());
        Checks.feed(x, "eddy 9999900000;    ");
        c.due("an N that n cuts", -9, x.law(9, false));
        c.due("at its length", 9, x.fault());
    }

    /** "texts of up to 400 bytes". */
    private static void lengths() {
        String sum = "eddy 1" + "+1".repeat(196) + ";";
        good(sum);
        good(" " + sum);
        c.due("its bytes", 400, (" " + sum).length());
        law("eddy 1" + "+1".repeat(197), 1, 400);
        TankHulls x = new TankHulls();
        x.hull(100, 2);
        Checks.law(x, " " + sum);
        c.due("its eddy", 197, x.pull(0, 3));
        // the deepest that may wait: every level has the most left of its signs
        String deep = "1+1*most(1,".repeat(6) + "1+1*1" + ")".repeat(6);
        Checks.law(x, "eddy 1 if 1=2 or 1=1 and 1+1*1<" + deep + ";eddy " + deep + ";");
        c.due("its eddy", 8, x.pull(1, 3));
        String test = "1=2 or 1=1 and [".repeat(6) + "1=2 or 1=1 and 5<6" + "]".repeat(6);
        Checks.law(x, "eddy 7 if " + test + ";");
        c.due("its eddy", 7, x.pull(2, 3));
    }

    /** Promise 8: "of the latest law(); NONE without". */
    private static void latestFault() {
        TankHulls x = new TankHulls();
        c.due("without a law()", -1, x.fault());
        Checks.law(x, "skin ?");
        c.due("a FAULT", 5, x.fault());
        Checks.way(x, "?");
        c.due("the latest", 0, x.fault());
        Checks.law(x, "skin");
        c.due("the latest", 4, x.fault());
        Checks.way(x, "off 1;");
        c.due("none in the latest", -1, x.fault());
        Checks.law(x, " ".repeat(399) + "?");
        c.due("the last place of all", 399, x.fault());
        Checks.law(x, "skin" + " ".repeat(396));
        c.due("the greatest length", 400, x.fault());
        x.law(0, false);
        c.due("none in the latest", -1, x.fault());
    }
}
