/** What wraps around: VALUES of 64 bits, the SEED of 32; and the bytes of numbers below 0. */
public final class WrapTest {
    private static final Checks c = new Checks();
    /** 2 to the power of 63: the least VALUE of all. */
    private static final String LEAST = "(4096*4096*4096*4096*4096*8)";

    public static void main(String[] args) {
        sums();
        products();
        quotients();
        comparisons();
        leastAndMost();
        rootsAndLimits();
        seeds();
        drawsOfWrappedSeeds();
        bytesBelowZero();
        c.finish();
    }

    private static long eddy(String e) {
        TankHulls x = new TankHulls();
        x.hull(100, 2);
        c.due("'" + e + "' is a LAW", 0, Checks.law(x, "eddy " + e + ";"));
        return x.pull(0, 3);
    }

    private static void holds(String condition) {
        c.due(condition, 1, eddy("1 if " + condition));
    }

    private static void holdsNot(String condition) {
        c.due(condition, 0, eddy("1 if " + condition));
    }

    /** "VALUES are whole numbers of 64 bits that wrap". */
    private static void sums() {
        holds(LEAST + "<0");
        holds(LEAST + "-1>0");
        holds(LEAST + "-1+1<0");
        holds(LEAST + "-1+1=" + LEAST);
        holds("0-" + LEAST + "=" + LEAST);
        holds(LEAST + "+" + LEAST + "=0");
        holds(LEAST + "+" + LEAST + "+5=5");
        holds(LEAST + "-1-" + LEAST + "=0-1");
    }

    private static void products() {
        holds(LEAST + "*2=0");
        holds(LEAST + "*3=" + LEAST);
        holds("4096*4096*4096*4096*4096*16=0");
        holds("4096*4096*4096*4096*4096*4>0");
        c.due("the least times 2, and 7", 7, eddy(LEAST + "*2+7"));
        // what wraps is told by its rest by 9,973, which is below 0 where the VALUE is
        String fifth = "9999*9999*9999*9999*9999";
        long wrapped = new java.math.BigInteger("9999").pow(5).longValue();
        c.due("9,999 to the power of 5", 9973 + wrapped % 9973, eddy("9973+" + fifth + "-" + fifth + "/9973*9973"));
    }

    /** The least VALUE by -1 is itself again. */
    private static void quotients() {
        holds(LEAST + "/(0-1)=" + LEAST);
        holds(LEAST + "/(0-1)<0");
        holds(LEAST + "/1=" + LEAST);
        holds(LEAST + "/" + LEAST + "=1");
        holds(LEAST + "/0=0");
        holds("(" + LEAST + "-1)/(0-1)=" + LEAST + "+1");
    }

    /** By the VALUES themselves, not by a difference that would wrap. */
    private static void comparisons() {
        holds(LEAST + "<1");
        holdsNot(LEAST + ">1");
        holds("1>" + LEAST);
        holds(LEAST + "<" + LEAST + "-1");
        holdsNot(LEAST + "=0");
    }

    private static void leastAndMost() {
        holds("least(" + LEAST + ",1)=" + LEAST);
        holds("least(1," + LEAST + ")=" + LEAST);
        c.due("most", 1, eddy("most(" + LEAST + ",1)"));
        c.due("most", 1, eddy("most(1," + LEAST + ")"));
    }

    private static void rootsAndLimits() {
        c.due("root of the least", 0, eddy("root(" + LEAST + ")"));
        c.due("root of the greatest", 499, eddy("root(" + LEAST + "-1)-3037*1000*1000"));
        c.due("the least is told as 0", 0, eddy(LEAST));
        c.due("the greatest as 1,000,000,000", 1000000000L, eddy(LEAST + "-1"));
        c.due("2 to the power of 32 is no 0", 1000000000L, eddy("4096*4096*256"));
    }

    private static final int[] SEEDS = {0, 1, 2, -1, 12345, 65536, Integer.MAX_VALUE, Integer.MIN_VALUE, 1103515245};

    /** "the SEED (1 at first) becomes itself times 1,103,515,245, and 12,345 (it wraps)". */
    private static void seeds() {
        TankHulls x = new TankHulls();
        x.hull(100, 2);
        Checks.law(x, "eddy 100;");
        c.due("1 at first", 1, x.count(10));
        x.tow(0, 0);
        c.due("after 1", 1103527590, x.count(10));
        x.tow(0, 0);
        c.due("it wraps", (int) (1103527590L * 1103515245L + 12345), x.count(10));
        int had = x.count(10);
        for (int seed : SEEDS) {
            c.due("what it was", had, x.seed(seed));
            x.tow(0, 3);
            had = (int) (seed * 1103515245L + 12345);
            c.due("after " + seed, had, x.count(10));
        }
    }

    /** "what its bits 16 to 30 leave by the number": bit 31 is none of them, nor bit 15. */
    private static void drawsOfWrappedSeeds() {
        int below = 0;
        for (int seed = 0; seed < 400; seed++) {
            TankHulls x = new TankHulls();
            x.hull(100, 2);
            Checks.law(x, "eddy 10*1000;");
            x.seed(seed);
            x.tow(0, 50);
            int next = x.count(10);
            below += next < 0 ? 1 : 0;
            long bits = (next & 0x7FFF0000L) / 65536;
            c.due("the DRAW of " + seed, 10000 + 100 * (bits % 101 - 50), x.ran(0, 6));
        }
        c.due("some SEEDS were below 0", 1, below > 50 ? 1 : 0);
    }

    /** Promise 6: "of each number the highest first", of numbers below 0 too. */
    private static void bytesBelowZero() {
        TankHulls x = new TankHulls();
        x.hull(100, 2);
        x.feed(0x20202065, 0x64647920, 0x3432203B, 0x80FFFFFF, 0xFFFFFFFF);
        c.due("bytes behind n do not count", 0, x.law(12, false));
        c.due("its eddy", 42, x.pull(0, 3));
        x.feed(0x20202065, 0x64647920, 0x3432203B, 0x80FFFFFF, 0xFFFFFFFF);
        c.due("the 13th can't stand", -9, x.law(13, false));
        c.due("its place", 12, x.fault());
        // 160 is no blank, though its low bits are
        for (int first : new int[] {0xA0656464, 0x00656464, 0x1F656464, 0x21656464, 0xFF656464}) {
            x.feed(first, 0x7920313B, 0, 0, 0);
            c.due("its first byte can't stand", -9, x.law(8, false));
            c.due("its place", 0, x.fault());
        }
        x.feed(0x20656464, 0x7920313B, 0, 0, 0);
        c.due("a blank can", 1, x.law(8, false));
    }
}
