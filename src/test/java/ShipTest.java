/** Promises 25 to 28, 34 and 35: EARLIER ships, RATIOS, SPANS, ODDS and PRICES. */
public final class ShipTest {
    private static final Checks c = new Checks();

    public static void main(String[] args) {
        earlier();
        middle();
        strange();
        span();
        odds();
        c.finish();
    }

    private static void earlier() {
        TankHulls x = new TankHulls();
        c.throwsDue("foretold 0", Checks.ARGUMENT, () -> x.earlier(0, 0));
        c.throwsDue("foretold 1,000,000,001", Checks.ARGUMENT, () -> x.earlier(1000000001, 0));
        c.throwsDue("was -1", Checks.ARGUMENT, () -> x.earlier(1, -1));
        c.throwsDue("was 1,000,000,001", Checks.ARGUMENT, () -> x.earlier(1, 1000000001));
        c.throwsDue("ratio of none", Checks.ELEMENT, () -> x.ratio(0));
        c.throwsDue("middle of none", Checks.ELEMENT, () -> x.ratio(-1));
        c.due("the greatest", 1, x.earlier(1, 1000000000));
        c.due("its ratio", 2147483647, x.ratio(0));
        c.due("the least", 2, x.earlier(1000000000, 0));
        c.due("its ratio", 0, x.ratio(1));
        c.due("two thirds", 3, x.earlier(3, 2));
        c.due("its ratio", 666, x.ratio(2));
        c.throwsDue("ratio 3", Checks.ELEMENT, () -> x.ratio(3));
        c.throwsDue("ratio -2", Checks.ELEMENT, () -> x.ratio(-2));
        c.due("one below the most", 4, x.earlier(65, 139586437));
        c.due("its ratio", 2147483646, x.ratio(3));
        c.due("one above the most", 5, x.earlier(37, 79456895));
        c.due("its ratio", 2147483647, x.ratio(4));
        for (int i = 6; i <= 20; i++) {
            c.due("earlier", i, x.earlier(1, 1));
        }
        c.due("a 21st ship", -1, x.earlier(1, 1));
        c.throwsDue("a wrong 21st ship", Checks.ARGUMENT, () -> x.earlier(0, 1));
        c.due("ships", 20, x.count(5));
    }

    private static void middle() {
        TankHulls x = new TankHulls();
        int[] was = {700, 100, 900, 300, 300, 800};
        int[] want = {700, 100, 700, 300, 300, 300};
        for (int i = 0; i < was.length; i++) {
            x.earlier(1000, was[i]);
            c.due("middle of " + (i + 1), want[i], x.ratio(-1));
        }
        x.earlier(1000, 750);
        x.earlier(1000, 760);
        c.due("the lower one of two", 700, x.ratio(-1));
    }

    private static void strange() {
        TankHulls x = new TankHulls();
        c.throwsDue("by -1", Checks.ARGUMENT, () -> x.strange(-1));
        c.throwsDue("by 10,000", Checks.ARGUMENT, () -> x.strange(10000));
        c.due("of none", 0, x.strange(0));
        x.earlier(1000, 1000);
        x.earlier(1000, 800);
        x.earlier(1000, 1201);
        c.due("by 0", 6, x.strange(0));
        c.due("by 199", 6, x.strange(199));
        c.due("by 200", 4, x.strange(200));
        c.due("by 201", 0, x.strange(201));
        x.earlier(1, 1000000000);
        c.due("by 9,999", 8, x.strange(9999));
    }

    private static void span() {
        TankHulls x = new TankHulls();
        c.throwsDue("need -1", Checks.ARGUMENT, () -> x.span(-1, true));
        c.throwsDue("need 1,000,000,001", Checks.ARGUMENT, () -> x.span(1000000001, true));
        c.due("without ships", 77, x.span(77, true));
        c.due("without ships", 1000000000, x.span(1000000000, false));
        x.earlier(1000, 1000);
        x.earlier(1000, 800);
        x.earlier(1000, 1201);
        c.due("the least", 799, x.span(999, false));
        c.due("the greatest: 1,201 is strange", 999, x.span(999, true));
        c.due("of 0", 0, x.span(0, true));
        TankHulls y = new TankHulls();
        y.earlier(1, 1000000000);
        c.due("the greatest of all", 1000000000L * 2147483647L / 1000, y.span(1000000000, false));
        y.earlier(1000, 0);
        c.due("a ratio of 0 counts", 0, y.span(1000000000, true));
    }

    private static void odds() {
        TankHulls x = new TankHulls();
        c.throwsDue("need -1", Checks.ARGUMENT, () -> x.odds(-1, 0));
        c.throwsDue("engine -1", Checks.ARGUMENT, () -> x.odds(0, -1));
        c.throwsDue("need too large", Checks.ARGUMENT, () -> x.odds(1000000001, 0));
        c.throwsDue("engine too large", Checks.ARGUMENT, () -> x.odds(0, 1000000001));
        c.throwsDue("price: need -1", Checks.ARGUMENT, () -> x.price(-1, 0, 0, 0));
        c.throwsDue("price: engine -1", Checks.ARGUMENT, () -> x.price(0, -1, 0, 0));
        c.throwsDue("bonus -1", Checks.ARGUMENT, () -> x.price(0, 0, -1, 0));
        c.throwsDue("malus -1", Checks.ARGUMENT, () -> x.price(0, 0, 0, -1));
        c.throwsDue("bonus 10,000", Checks.ARGUMENT, () -> x.price(0, 0, 10000, 0));
        c.throwsDue("malus 10,000", Checks.ARGUMENT, () -> x.price(0, 0, 0, 10000));
        c.due("without ships", 0, x.odds(0, 0));
        c.due("without ships", 0, x.price(0, 0, 5, 5));
        int[] was = {1000, 950, 1100, 1050, 2000, 10};
        for (int one : was) {
            x.earlier(1000, one);
        }
        // MIDDLE 1,000; 2,000 and 10 are strange
        c.due("none is enough", 0, x.odds(999, 948));
        c.due("949.05, cut", 1, x.odds(999, 949));
        c.due("two", 2, x.odds(999, 1000));
        c.due("all four", 4, x.odds(999, 1000000000));
        c.due("price of none", -80, x.price(999, 948, 90, 20));
        c.due("price of two", 140, x.price(999, 1000, 90, 20));
        c.due("without a bonus", -40, x.price(999, 1000, 0, 20));
        c.due("without a malus", 180, x.price(999, 1000, 90, 0));
        c.due("price of four", 39996, x.price(999, 5000, 9999, 9999));
        TankHulls y = new TankHulls();
        y.earlier(1, 1000000000);
        c.due("no number wraps", 0, y.odds(1000000000, 1000000000));
    }
}
