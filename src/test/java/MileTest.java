/** Promises 31 to 33, 36 and 37: trial MILES with tide and wind, months of FOULING. */
public final class MileTest {
    private static final Checks c = new Checks();
    private static final int VOID = Integer.MIN_VALUE;

    public static void main(String[] args) {
        mile();
        means();
        wind();
        fouling();
        foulingRows();
        c.finish();
    }

    private static void mile() {
        TankHulls x = new TankHulls();
        c.throwsDue("speed -1", Checks.ARGUMENT, () -> x.mile(-1, 0));
        c.throwsDue("speed 1,000", Checks.ARGUMENT, () -> x.mile(1000, 0));
        c.throwsDue("wind -100", Checks.ARGUMENT, () -> x.mile(0, -100));
        c.throwsDue("wind 100", Checks.ARGUMENT, () -> x.mile(0, 100));
        for (int i = 1; i <= 6; i++) {
            c.due("mile " + i, i, x.mile(0, 0));
        }
        c.due("a 7th run", -1, x.mile(0, 0));
        c.throwsDue("a wrong 7th run", Checks.ARGUMENT, () -> x.mile(0, 100));
        c.due("anew", 6, x.anew());
        c.due("anew again", 0, x.anew());
        c.due("one again", 1, x.mile(9, 9));
    }

    private static void means() {
        TankHulls x = new TankHulls();
        int[] speeds = {999, 10, 200, 3000 / 7, 5, 60};
        int[][] often = {{}, {}, {1, 1}, {1, 2, 1}, {1, 3, 3, 1}, {1, 4, 6, 4, 1}, {1, 5, 10, 10, 5, 1}};
        c.due("mean of none", VOID, x.mean(false));
        for (int n = 1; n <= 6; n++) {
            x.mile(speeds[n - 1], 0);
            int mean = 0;
            int tide = 0;
            for (int i = 0; i < often[n].length; i++) {
                mean += often[n][i] * speeds[i];
                tide += often[n][i] * speeds[i] * (i % 2 == 0 ? 1 : -1);
            }
            c.due("mean of " + n, n == 1 ? VOID : mean, x.mean(false));
            c.due("tide of " + n, n == 1 ? VOID : tide, x.mean(true));
        }
        x.anew();
        c.due("mean after anew", VOID, x.mean(true));
    }

    private static void wind() {
        int[] winds = {99, 90, 89, 10, 9, 0, -9, -10, -19, -99};
        int[] more = {9, 9, 8, 1, 0, 0, 0, -1, -1, -9};
        for (int i = 0; i < winds.length; i++) {
            TankHulls x = new TankHulls();
            x.mile(5, winds[i]);
            x.mile(0, 0);
            c.due("wind " + winds[i], 5 + more[i], x.mean(false));
        }
    }

    private static void fouling() {
        TankHulls x = new TankHulls();
        c.throwsDue("months -1", Checks.ARGUMENT, () -> x.foul(-1, 0));
        c.throwsDue("months 1,000", Checks.ARGUMENT, () -> x.foul(1000, 0));
        c.throwsDue("hundredths -1", Checks.ARGUMENT, () -> x.foul(0, -1));
        c.throwsDue("hundredths 1,000", Checks.ARGUMENT, () -> x.foul(0, 1000));
        c.throwsDue("grown(-1)", Checks.ARGUMENT, () -> x.grown(-1));
        c.throwsDue("grown(1,000)", Checks.ARGUMENT, () -> x.grown(1000));
        c.due("without rows", 0, x.grown(5));
        c.due("a row", 1, x.foul(10, 20));
        c.due("ahead of the first", 20, x.grown(0));
        c.due("at the first", 20, x.grown(10));
        c.due("behind it", 20, x.grown(999));
        c.due("another row", 2, x.foul(17, 100));
        c.due("in between: 20 and 80 by 7", 31, x.grown(11));
        c.due("in between: 20 and 480 by 7", 88, x.grown(16));
        c.due("at the second", 100, x.grown(17));
        c.due("a falling row", 3, x.foul(27, 0));
        c.due("half the way down", 50, x.grown(22));
        c.due("behind the last", 0, x.grown(28));
        c.due("ahead of the first", 20, x.grown(9));
    }

    private static void foulingRows() {
        TankHulls x = new TankHulls();
        for (int i = 1; i <= 8; i++) {
            if (i > 1) {
                c.due("the same months", -2, x.foul(i - 1, 999));
                c.due("fewer months", -2, x.foul(0, 999));
            }
            c.due("row " + i, i, x.foul(i, i * 10));
        }
        c.due("a 9th row", -1, x.foul(99, 0));
        c.due("a 9th row that does not rise", -1, x.foul(1, 0));
        c.throwsDue("a wrong 9th row", Checks.ARGUMENT, () -> x.foul(1, -1));
        c.due("nothing was kept of these", 80, x.grown(999));
        c.due("rows", 8, x.count(7));
    }
}
