/**
 * Every "IllegalArgumentException: ..", "no such ..", "there is no HULL" of promises 2 to 37: at the last
 * argument that is allowed and the first that is not, which exception comes first, and that a refused call
 * does nothing.
 */
public final class ArgumentsTest {
    private static final Checks c = new Checks();
    private static final int BILLION = 1000000000;

    public static void main(String[] args) {
        hullsAndTanks();
        texts();
        runningAtHand();
        pullsAndNeeds();
        errorsAndSizes();
        runs();
        earlierShips();
        lines();
        promises();
        milesAndFouling();
        otherCounts();
        numbersOfMany();
        noHull();
        noHullAgain();
        noHullIsNeeded();
        stateComesFirst();
        elementComesBeforeTheRest();
        indexComesBeforeTheArgument();
        c.finish();
    }

    /** Promises 2 to 5. */
    private static void hullsAndTanks() {
        c.range("hull: LENGTH", Checks.ARGUMENT, 10, 400, (x, v) -> x.hull(v, 5));
        c.range("hull: STATIONS", Checks.ARGUMENT, 2, 12, (x, v) -> x.hull(100, v));
        c.range("station: HULL", Checks.ELEMENT, 0, 1, (x, v) -> x.station(v, 0, 1, 1));
        c.range("station: STATION of 3", Checks.ARGUMENT, 0, 2, (x, v) -> x.station(0, v, 1, 1));
        c.range("station: STATION of 2", Checks.ARGUMENT, 0, 1, (x, v) -> x.station(1, v, 1, 1));
        c.range("station: BEAM", Checks.ARGUMENT, 0, 60, (x, v) -> x.station(0, 0, v, 1));
        c.range("station: DRAFT", Checks.ARGUMENT, 0, 60, (x, v) -> x.station(0, 0, 1, v));
        c.range("model: HULL", Checks.ELEMENT, 0, 1, (x, v) -> x.model(v, 1, 0));
        c.range("model: SCALE", Checks.ARGUMENT, 1, 40, (x, v) -> x.model(0, v, 0));
        c.range("model: what", Checks.ARGUMENT, 0, 5, (x, v) -> x.model(0, 1, v));
        c.range("tank: width", Checks.ARGUMENT, 1, 200, (x, v) -> x.tank(v, 1));
        c.range("tank: depth", Checks.ARGUMENT, 1, 200, (x, v) -> x.tank(1, v));
    }

    /** Promise 7: "n is not 0 to the TAPE's bytes (it stays)". */
    private static void texts() {
        c.range("law: n of 20", Checks.ARGUMENT, 0, 20, (x, v) -> x.law(v, false));
        c.range("law: a WAY's n of 20", Checks.ARGUMENT, 0, 20, (x, v) -> x.law(v, true));
        c.range("law: n of 0", Checks.ARGUMENT, 0, 0, TankHulls::new, (x, v) -> x.law(v, false));
        TankHulls x = Rig.whole();
        c.throwsDue("law(21)", Checks.ARGUMENT, () -> x.law(21, false));
        c.throwsDue("law(-1)", Checks.ARGUMENT, () -> x.law(-1, false));
        c.due("what stood on the TAPE is a LAW still", 1, x.law(8, false));
        c.due("its eddy", 1, x.pull(1, 3));
        Checks.law(x, "skin x;");
        c.throwsDue("law(1) of none", Checks.ARGUMENT, () -> x.law(1, false));
        c.due("the FAULT of the latest law() that read one", 5, x.fault());
    }

    /** Promises 9 to 11. */
    private static void runningAtHand() {
        c.range("set: HULL", Checks.ELEMENT, 0, 1, (x, v) -> x.set(v, 1, 1, -1));
        c.range("set: SCALE", Checks.ARGUMENT, 1, 40, (x, v) -> x.set(0, v, 1, -1));
        c.range("set: speed", Checks.ARGUMENT, 1, 99, (x, v) -> x.set(0, 1, v, -1));
        c.range("set: TANK", Checks.INDEX, -1, 0, (x, v) -> x.set(0, 1, 1, v));
        c.range("trim: months", Checks.ARGUMENT, 0, 99, (x, v) -> x.trim(false, v));
        c.range("trim: months with a WIRE", Checks.ARGUMENT, 0, 99, (x, v) -> x.trim(true, v));
        c.range("name: which", Checks.ARGUMENT, 0, 9, (x, v) -> x.name(v));
    }

    /** Promises 12, 13, 16, 17. */
    private static void pullsAndNeeds() {
        c.range("pull: LAW", Checks.INDEX, 0, 0, (x, v) -> x.pull(v, 0));
        c.range("pull: what", Checks.ARGUMENT, 0, 4, (x, v) -> x.pull(0, v));
        c.range("need: WAY", Checks.INDEX, 0, 0, (x, v) -> x.need(v, 1, 0));
        for (int what = 0; what <= 3; what++) {
            int part = what;
            c.range("need: PULL, what " + what, Checks.ARGUMENT, 0, BILLION, (x, v) -> x.need(0, v, part));
        }
        c.range("need: what", Checks.ARGUMENT, 0, 3, (x, v) -> x.need(0, 1, v));
        c.range("sides: LAW", Checks.INDEX, 0, 0, (x, v) -> x.sides(v));
        c.range("widest: LAW", Checks.INDEX, 0, 0, (x, v) -> x.widest(v, 0));
        c.range("widest: o", Checks.ARGUMENT, 0, 99, (x, v) -> x.widest(0, v));
    }

    /** Promises 14 and 15. */
    private static void errorsAndSizes() {
        c.range("error: LAW", Checks.INDEX, 0, 0, (x, v) -> x.error(v, 0, 1, 1));
        c.range("error: WAY", Checks.INDEX, 0, 0, (x, v) -> x.error(0, v, 1, 1));
        c.range("error: speed", Checks.ARGUMENT, 1, 99, (x, v) -> x.error(0, 0, v, 1));
        c.range("error: SCALE", Checks.ARGUMENT, 1, 40, (x, v) -> x.error(0, 0, 1, v));
        c.range("size: LAW", Checks.INDEX, 0, 0, (x, v) -> x.size(v, 0, 1, 0));
        c.range("size: WAY", Checks.INDEX, 0, 0, (x, v) -> x.size(0, v, 1, 0));
        c.range("size: speed", Checks.ARGUMENT, 1, 99, (x, v) -> x.size(0, 0, v, 0));
        c.range("size: COIN", Checks.ARGUMENT, 0, 9999, (x, v) -> x.size(0, 0, 1, v));
    }

    /** Promises 18 to 20, 23, 24. */
    private static void runs() {
        c.range("run: PULL", Checks.ARGUMENT, 0, BILLION, (x, v) -> x.run(v));
        c.range("tow: LAW", Checks.INDEX, 0, 0, (x, v) -> x.tow(v, 0));
        c.range("tow: SPREAD", Checks.ARGUMENT, 0, 50, (x, v) -> x.tow(0, v));
        c.range("ran: RUN", Checks.ELEMENT, 0, 1, (x, v) -> x.ran(v, 0));
        c.range("ran: what", Checks.ARGUMENT, 0, 6, (x, v) -> x.ran(0, v));
        c.range("fits: o", Checks.ARGUMENT, 0, 99, (x, v) -> x.fits(v));
        c.range("telling: o", Checks.ARGUMENT, 0, 99, (x, v) -> x.telling(v));
    }

    /** Promises 25 to 28. */
    private static void earlierShips() {
        c.range("earlier: foretold", Checks.ARGUMENT, 1, BILLION, (x, v) -> x.earlier(v, 1));
        c.range("earlier: was", Checks.ARGUMENT, 0, BILLION, (x, v) -> x.earlier(1, v));
        c.range("ratio: k", Checks.ELEMENT, -1, 2, (x, v) -> x.ratio(v));
        c.range("strange: by", Checks.ARGUMENT, 0, 9999, (x, v) -> x.strange(v));
        c.range("span: NEED, the least", Checks.ARGUMENT, 0, BILLION, (x, v) -> x.span(v, false));
        c.range("span: NEED, the greatest", Checks.ARGUMENT, 0, BILLION, (x, v) -> x.span(v, true));
        for (int k : new int[] {-2, -1, 0, 1}) {
            c.throwsDue("ratio(" + k + ") of none", Checks.ELEMENT, () -> new TankHulls().ratio(k));
        }
    }

    /** Promises 29 and 30. */
    private static void lines() {
        c.range("better: LAW", Checks.INDEX, 0, 0, (x, v) -> x.better(v, 0));
        c.range("better: what", Checks.ARGUMENT, -1, 2, (x, v) -> x.better(0, v));
        c.range("lines: LAW", Checks.INDEX, 0, 0, (x, v) -> x.lines(v, 1));
        c.range("lines: many", Checks.ARGUMENT, 0, 20, (x, v) -> x.lines(0, v));
    }

    /** Promises 34 and 35. */
    private static void promises() {
        c.range("odds: NEED", Checks.ARGUMENT, 0, BILLION, (x, v) -> x.odds(v, 1));
        c.range("odds: ENGINE", Checks.ARGUMENT, 0, BILLION, (x, v) -> x.odds(1, v));
        c.range("price: NEED", Checks.ARGUMENT, 0, BILLION, (x, v) -> x.price(v, 1, 1, 1));
        c.range("price: ENGINE", Checks.ARGUMENT, 0, BILLION, (x, v) -> x.price(1, v, 1, 1));
        c.range("price: bonus", Checks.ARGUMENT, 0, 9999, (x, v) -> x.price(1, 1, v, 1));
        c.range("price: malus", Checks.ARGUMENT, 0, 9999, (x, v) -> x.price(1, 1, 1, v));
    }

    /** Promises 31, 36, 37. */
    private static void milesAndFouling() {
        c.range("mile: speed", Checks.ARGUMENT, 0, 999, (x, v) -> x.mile(v, 1));
        c.range("mile: wind", Checks.ARGUMENT, -99, 99, (x, v) -> x.mile(1, v));
        c.range("foul: months", Checks.ARGUMENT, 0, 999, TankHulls::new, (x, v) -> x.foul(v, 1));
        c.range("foul: hundredths", Checks.ARGUMENT, 0, 999, (x, v) -> x.foul(30, v));
        c.range("grown: months", Checks.ARGUMENT, 0, 999, (x, v) -> x.grown(v));
        c.throwsDue("foul: wrong hundredths before months that do not rise", Checks.ARGUMENT,
                () -> Rig.whole().foul(20, 1000));
    }

    /** Promise 40: "NONE for others". */
    private static void otherCounts() {
        TankHulls x = Rig.whole();
        x.seed(77);
        c.due("the last what", 77, x.count(10));
        for (int what : new int[] {11, -1, Integer.MIN_VALUE, Integer.MAX_VALUE}) {
            c.due("count(" + what + ")", -1, x.count(what));
        }
    }

    /** The last of as many as there can be is there; one behind it is not. */
    private static void numbersOfMany() {
        TankHulls x = FullTest.full();
        c.due("HULL 5", 1005, x.station(5, 0, 10, 5));
        c.throwsDue("HULL 6", Checks.ELEMENT, () -> x.station(6, 0, 10, 5));
        c.due("STATION 11", 1005, x.station(5, 11, 10, 5));
        c.throwsDue("STATION 12", Checks.ARGUMENT, () -> x.station(5, 12, 10, 5));
        c.due("TANK 3", 1, x.set(5, 1, 1, 3));
        c.throwsDue("TANK 4", Checks.INDEX, () -> x.set(5, 1, 1, 4));
        c.due("LAW 3", 3, x.pull(3, 3));
        c.throwsDue("LAW 4", Checks.INDEX, () -> x.pull(4, 3));
        c.due("WAY 2", 2, x.need(2, 0, 2));
        c.throwsDue("WAY 3", Checks.INDEX, () -> x.need(3, 0, 2));
        c.due("RUN 59", 59, x.ran(59, 6));
        c.throwsDue("RUN 60", Checks.ELEMENT, () -> x.ran(60, 6));
        c.due("ship 19", 1019, x.ratio(19));
        c.throwsDue("ship 20", Checks.ELEMENT, () -> x.ratio(20));
    }

    private interface Use {
        Number of(TankHulls x);
    }

    /** All calls that want a HULL, with arguments that are right but for that. */
    private static final Use[] WANT_A_HULL = {
        x -> x.name(0), x -> x.pull(0, 0), x -> x.need(0, 1, 0), x -> x.need(0, 1, 3), x -> x.error(0, 0, 1, 1),
        x -> x.size(0, 0, 1, 0), x -> x.sides(0), x -> x.widest(0, 0), x -> x.run(1), x -> x.tow(0, 0),
        x -> x.wire(), x -> x.telling(0), x -> x.better(0, 0), x -> x.lines(0, 0),
    };

    private static void wantHulls(String when, TankHulls x) {
        for (int i = 0; i < WANT_A_HULL.length; i++) {
            Use use = WANT_A_HULL[i];
            c.throwsDue(when + ", call " + i, Checks.STATE, () -> use.of(x));
        }
    }

    /** Promise 11: "IllegalStateException: there is no HULL (so below)". */
    private static void noHull() {
        TankHulls x = Rig.hullless();
        String before = Rig.look(x);
        wantHulls("no HULL", x);
        c.same("after all these", before, Rig.look(x));
        for (int i = 0; i < WANT_A_HULL.length; i++) {
            Use use = WANT_A_HULL[i];
            TankHulls y = Rig.hullless();
            y.hull(10, 2);
            c.taken("with a HULL, call " + i, () -> use.of(y));
        }
    }

    /** Promise 39: with the HULLS gone by an IMAGE there is none again. */
    private static void noHullAgain() {
        TankHulls x = Rig.hullless();
        x.image();
        x.hull(100, 2);
        c.due("a HULL", 100, x.name(0));
        x.restore();
        wantHulls("the HULL is gone", x);
    }

    /** Calls that name no IllegalStateException go on without a HULL. */
    private static void noHullIsNeeded() {
        TankHulls x = Rig.hullless();
        c.due("trim", 0, x.trim(true, 5));
        c.due("fits", 1, x.fits(0));
        c.due("earlier", 1, x.earlier(1, 1));
        c.due("ratio", 1000, x.ratio(0));
        c.due("strange", 0, x.strange(0));
        c.due("span", 5, x.span(5, true));
        c.due("odds", 1, x.odds(5, 5));
        c.due("price", 3, x.price(5, 5, 3, 4));
        c.due("mile", 1, x.mile(1, 1));
        c.due("foul", 1, x.foul(1, 1));
        c.due("tank", 1, x.tank(1, 1));
        c.throwsDue("ran", Checks.ELEMENT, () -> x.ran(0, 0));
        c.throwsDue("set", Checks.ELEMENT, () -> x.set(0, 1, 1, -1));
        c.throwsDue("station", Checks.ELEMENT, () -> x.station(0, 0, 1, 1));
        c.throwsDue("model", Checks.ELEMENT, () -> x.model(0, 1, 0));
    }

    private static void stateComesFirst() {
        TankHulls x = new TankHulls();
        c.throwsDue("name", Checks.STATE, () -> x.name(10));
        c.throwsDue("pull", Checks.STATE, () -> x.pull(0, 5));
        c.throwsDue("need", Checks.STATE, () -> x.need(0, -1, 4));
        c.throwsDue("error", Checks.STATE, () -> x.error(0, 0, 0, 0));
        c.throwsDue("size", Checks.STATE, () -> x.size(0, 0, 0, -1));
        c.throwsDue("sides", Checks.STATE, () -> x.sides(0));
        c.throwsDue("widest", Checks.STATE, () -> x.widest(0, 100));
        c.throwsDue("run", Checks.STATE, () -> x.run(-1));
        c.throwsDue("tow", Checks.STATE, () -> x.tow(0, 51));
        c.throwsDue("telling", Checks.STATE, () -> x.telling(100));
        c.throwsDue("better", Checks.STATE, () -> x.better(0, 3));
        c.throwsDue("lines", Checks.STATE, () -> x.lines(0, 21));
    }

    private static void elementComesBeforeTheRest() {
        TankHulls x = Rig.whole();
        c.throwsDue("station", Checks.ELEMENT, () -> x.station(2, 3, 61, 61));
        c.throwsDue("model", Checks.ELEMENT, () -> x.model(2, 41, 6));
        c.throwsDue("set: HULL before TANK", Checks.ELEMENT, () -> x.set(2, 1, 1, 1));
        c.throwsDue("set: HULL before SCALE", Checks.ELEMENT, () -> x.set(2, 41, 100, -1));
        c.throwsDue("set: TANK before SCALE", Checks.INDEX, () -> x.set(0, 41, 1, 1));
        c.throwsDue("set: TANK before speed", Checks.INDEX, () -> x.set(0, 1, 100, -2));
        c.throwsDue("ran", Checks.ELEMENT, () -> x.ran(2, 7));
    }

    private static void indexComesBeforeTheArgument() {
        TankHulls x = Rig.whole();
        c.throwsDue("pull", Checks.INDEX, () -> x.pull(1, 5));
        c.throwsDue("need: WAY before PULL", Checks.INDEX, () -> x.need(1, -1, 0));
        c.throwsDue("need: WAY before what", Checks.INDEX, () -> x.need(1, 0, 4));
        c.throwsDue("error: LAW", Checks.INDEX, () -> x.error(1, 0, 0, 0));
        c.throwsDue("error: WAY", Checks.INDEX, () -> x.error(0, 1, 100, 41));
        c.throwsDue("size: LAW", Checks.INDEX, () -> x.size(1, 0, 0, -1));
        c.throwsDue("size: WAY", Checks.INDEX, () -> x.size(0, 1, 100, 10000));
        c.throwsDue("widest", Checks.INDEX, () -> x.widest(1, 100));
        c.throwsDue("tow", Checks.INDEX, () -> x.tow(1, 51));
        c.throwsDue("better", Checks.INDEX, () -> x.better(1, 3));
        c.throwsDue("lines", Checks.INDEX, () -> x.lines(1, 21));
    }
}
