import java.util.Arrays;
import java.util.NoSuchElementException;

/**
 * Hulls, their models in tanks, and what the pull of a model tells of the ship.
 * Words in capitals (LAW, WAY, RUNNING ..) are those of the document's terms.
 */
public final class TankHulls {
    public static final int NONE = -1;

    private static final int VOID = -2147483648;

    private static final int MOST_HULLS = 6;
    private static final int LEAST_LENGTH = 10;
    private static final int MOST_LENGTH = 400;
    private static final int LEAST_STATIONS = 2;
    private static final int MOST_STATIONS = 12;
    private static final int MOST_LINE = 60;
    private static final int FIRST_BEAM = 10;
    private static final int FIRST_DRAFT = 5;
    private static final int MOST_SCALE = 40;
    private static final int MOST_SPEED = 99;
    private static final int MOST_TANKS = 4;
    private static final int MOST_WIDTH = 200;
    private static final int MOST_MONTHS = 99;
    private static final int MOST_LAWS = 4;
    private static final int MOST_WAYS = 3;
    private static final int MOST_BYTES = 400;
    private static final int BYTES_FED = 20;
    private static final int MOST_RUNS = 60;
    private static final int RUN_CELLS = 7;
    private static final int MOST_PULL = 1000000000;
    private static final int MOST_SPREAD = 50;
    private static final int MOST_HUNDREDTHS = 99;
    private static final int MOST_EARLIER = 20;
    private static final int USUAL_STRANGE = 200;
    private static final int MOST_COIN = 9999;
    private static final int MOST_EXCHANGES = 20;
    private static final int MOST_MILE_RUNS = 6;
    private static final int MOST_MILE_SPEED = 999;
    private static final int MOST_WIND = 99;
    private static final int MOST_FOUL_ROWS = 8;
    private static final int MOST_FOUL = 999;
    private static final int MOST_IMAGES = 3;

    private static final int MODEL_PARTS = 6;
    private static final int NAMES = 10;

    /** Every word of LAWS and WAYS, in the order of the numbers below. */
    private static final String WORDS = "skin wave eddy sides foul off add more length speed wet volume beam draft fn wire side months least most root if or and not";

    /** Words are numbered behind the 256 bytes, so that a sign can stand for itself. */
    private static final int FIRST_WORD = 256;
    private static final int SKIN = 0;
    private static final int WAVE = 1;
    private static final int EDDY = 2;
    private static final int SIDES = 3;
    private static final int FOUL = 4;
    private static final int OFF = 5;
    private static final int ADD = 6;
    private static final int MORE = 7;
    private static final int TOLD_WORDS = 8;
    private static final int FIRST_NAME = FIRST_WORD + TOLD_WORDS;
    private static final int LEAST = FIRST_NAME + NAMES;
    private static final int MOST = LEAST + 1;
    private static final int ROOT = LEAST + 2;
    private static final int IF = LEAST + 3;
    private static final int OR = LEAST + 4;
    private static final int AND = LEAST + 5;
    private static final int NOT = LEAST + 6;

    /** Steps of a Program that are no sign and no word of its text. */
    private static final int PUT_NUMBER = 1;
    private static final int PUT_NAME = 2;
    private static final int TELL = 3;
    private static final int TELL_IF = 4;

    /** A step and its operand share one cell: operand times this, and the step. */
    private static final int STEP_ROOM = 512;

    private final World now;
    private final World[] images;
    private final Row tape;
    private final Reader reader;
    private final Shelf laws;
    private final Shelf ways;
    private final Bench bench;
    private int imageCount;
    private int faultPlace;

    public TankHulls() {
        World world = new World();
        now = world;
        images = new World[MOST_IMAGES];
        for (int i = 0; i < images.length; i++) {
            images[i] = new World();
        }
        tape = new Row(MOST_BYTES);
        reader = new Reader();
        laws = new Shelf(MOST_LAWS);
        ways = new Shelf(MOST_WAYS);
        bench = new Bench(world);
        faultPlace = NONE;
    }

    public int hull(int length, int stations) throws IllegalArgumentException {
        demand(isWithin(length, LEAST_LENGTH, MOST_LENGTH));
        demand(isWithin(stations, LEAST_STATIONS, MOST_STATIONS));
        return now.addHull(length, stations);
    }

    public int station(int hull, int station, int beam, int draft)
            throws NoSuchElementException, IllegalArgumentException {
        Hull one = demandHull(hull);
        demand(one.hasStation(station));
        demand(isWithin(beam, 0, MOST_LINE) && isWithin(draft, 0, MOST_LINE));
        int had = 100 * one.beamAt(station) + one.draftAt(station);
        one.shape(station, beam, draft);
        return had;
    }

    public int model(int hull, int scale, int what)
            throws NoSuchElementException, IllegalArgumentException {
        Hull one = demandHull(hull);
        demand(isWithin(scale, 1, MOST_SCALE) && isWithin(what, 0, MODEL_PARTS - 1));
        return bench.modelPart(one, scale, what);
    }

    public int tank(int width, int depth) throws IllegalArgumentException {
        demand(isWithin(width, 1, MOST_WIDTH) && isWithin(depth, 1, MOST_WIDTH));
        return now.addTank(width, depth);
    }

    public int feed(int a, int b, int c, int d, int e) {
        if (tape.filled() + BYTES_FED > MOST_BYTES) {
            return NONE;
        }
        feedBytes(a);
        feedBytes(b);
        feedBytes(c);
        feedBytes(d);
        feedBytes(e);
        return tape.filled();
    }

    public int law(int n, boolean way) throws IllegalArgumentException {
        demand(isWithin(n, 0, tape.filled()));
        Shelf shelf = way ? ways : laws;
        if (shelf.isFull()) {
            // Not even read: a text that finds no room has no FAULT, whatever it says.
            tape.empty();
            faultPlace = NONE;
            return NONE;
        }
        int kind = reader.readText(tape, n, way);
        tape.empty();
        faultPlace = reader.placeOfFault();
        return kind != 0 ? kind - 10 : shelf.put(reader.finished());
    }

    public int fault() {
        return faultPlace;
    }

    public int set(int hull, int scale, int speed, int tank)
            throws NoSuchElementException, IndexOutOfBoundsException, IllegalArgumentException {
        demandHull(hull);
        demandTank(tank);
        demand(isWithin(scale, 1, MOST_SCALE) && isWithin(speed, 1, MOST_SPEED));
        int had = now.hand.scale;
        now.hand.place(hull, scale, speed, tank);
        return had;
    }

    public int trim(boolean wire, int months) throws IllegalArgumentException {
        demand(isWithin(months, 0, MOST_MONTHS));
        int had = now.hand.months;
        now.hand.dress(wire, months);
        return had;
    }

    public int name(int which) throws IllegalStateException, IllegalArgumentException {
        demandAnyHull();
        demand(isWithin(which, 0, NAMES - 1));
        return bench.nameAtHand(which);
    }

    public long pull(int law, int what)
            throws IllegalStateException, IndexOutOfBoundsException, IllegalArgumentException {
        demandAnyHull();
        Program text = demandProgram(laws, law);
        demand(isWithin(what, 0, 4));
        return bench.pullPart(text, what);
    }

    public long need(int way, int pull, int what)
            throws IllegalStateException, IndexOutOfBoundsException, IllegalArgumentException {
        demandAnyHull();
        Program text = demandProgram(ways, way);
        demand(isWithin(pull, 0, MOST_PULL) && isWithin(what, 0, 3));
        return bench.needPart(text, now.hand, pull, what);
    }

    public long error(int law, int way, int speed, int scale)
            throws IllegalStateException, IndexOutOfBoundsException, IllegalArgumentException {
        demandAnyHull();
        Program lawText = demandProgram(laws, law);
        Program wayText = demandProgram(ways, way);
        demand(isWithin(speed, 1, MOST_SPEED) && isWithin(scale, 1, MOST_SCALE));
        return bench.errorOf(lawText, wayText, speed, scale);
    }

    public int size(int law, int way, int speed, int coin)
            throws IllegalStateException, IndexOutOfBoundsException, IllegalArgumentException {
        demandAnyHull();
        Program lawText = demandProgram(laws, law);
        Program wayText = demandProgram(ways, way);
        demand(isWithin(speed, 1, MOST_SPEED) && isWithin(coin, 0, MOST_COIN));
        return bench.bestScale(lawText, wayText, speed, coin);
    }

    public long sides(int law) throws IllegalStateException, IndexOutOfBoundsException {
        demandAnyHull();
        Program text = demandProgram(laws, law);
        return bench.sidesAtHand(text);
    }

    public int widest(int law, int o)
            throws IllegalStateException, IndexOutOfBoundsException, IllegalArgumentException {
        demandAnyHull();
        Program text = demandProgram(laws, law);
        demand(isWithin(o, 0, MOST_HUNDREDTHS));
        return bench.leastScaleWithin(text, o);
    }

    public int run(int pull) throws IllegalStateException, IllegalArgumentException {
        demandAnyHull();
        demand(isWithin(pull, 0, MOST_PULL));
        return now.addRun(pull);
    }

    public int tow(int law, int spread)
            throws IllegalStateException, IndexOutOfBoundsException, IllegalArgumentException {
        demandAnyHull();
        Program text = demandProgram(laws, law);
        demand(isWithin(spread, 0, MOST_SPREAD));
        if (now.runs.isFull()) {
            return NONE;
        }
        return now.addRun(bench.drawnPull(text, spread));
    }

    public int ran(int run, int what) throws NoSuchElementException, IllegalArgumentException {
        if (!isWithin(run, 0, now.runCount() - 1)) {
            throw new NoSuchElementException();
        }
        demand(isWithin(what, 0, RUN_CELLS - 1));
        return now.runCell(run, what);
    }

    public int seed(int v) {
        int had = now.seed;
        now.seed = v;
        return had;
    }

    public long wire() throws IllegalStateException {
        demandAnyHull();
        return bench.wirePart();
    }

    public int fits(int o) throws IllegalArgumentException {
        demand(isWithin(o, 0, MOST_HUNDREDTHS));
        return bench.fittingLaws(laws, o);
    }

    public int telling(int o) throws IllegalStateException, IllegalArgumentException {
        demandAnyHull();
        demand(isWithin(o, 0, MOST_HUNDREDTHS));
        return bench.tellingSpeed(laws, bench.fittingLaws(laws, o));
    }

    public int earlier(int foretold, int was) throws IllegalArgumentException {
        demand(isWithin(foretold, 1, MOST_PULL) && isWithin(was, 0, MOST_PULL));
        return now.ships.addShip(foretold, was);
    }

    public int ratio(int k) throws NoSuchElementException {
        int ships = now.ships.known();
        if (ships == 0 || !isWithin(k, NONE, ships - 1)) {
            throw new NoSuchElementException();
        }
        return k == NONE ? now.ships.middle() : now.ships.ratioAt(k);
    }

    public int strange(int by) throws IllegalArgumentException {
        demand(isWithin(by, 0, MOST_COIN));
        return now.ships.strangeBits(by);
    }

    public long span(int need, boolean most) throws IllegalArgumentException {
        demand(isWithin(need, 0, MOST_PULL));
        return now.ships.spanOf(need, most);
    }

    public long better(int law, int what)
            throws IllegalStateException, IndexOutOfBoundsException, IllegalArgumentException {
        demandAnyHull();
        Program text = demandProgram(laws, law);
        demand(isWithin(what, -1, 2));
        return bench.seekBetter(text) ? bench.betterPart(what) : NONE;
    }

    public int lines(int law, int many)
            throws IllegalStateException, IndexOutOfBoundsException, IllegalArgumentException {
        demandAnyHull();
        Program text = demandProgram(laws, law);
        demand(isWithin(many, 0, MOST_EXCHANGES));
        int made = 0;
        for (int i = 0; i < many && bench.seekBetter(text); i++) {
            bench.makeBetter();
            made++;
        }
        return made;
    }

    public int mile(int speed, int wind) throws IllegalArgumentException {
        demand(isWithin(speed, 0, MOST_MILE_SPEED) && isWithin(wind, -MOST_WIND, MOST_WIND));
        if (now.mileSpeeds.isFull()) {
            return NONE;
        }
        now.mileSpeeds.add(speed + wind / 10);
        return now.mileSpeeds.filled();
    }

    public int mean(boolean tide) {
        return now.mileSpeeds.filled() < 2 ? VOID : now.mileSum(tide);
    }

    public int anew() {
        int had = now.mileSpeeds.filled();
        now.mileSpeeds.empty();
        return had;
    }

    public int odds(int need, int engine) throws IllegalArgumentException {
        demand(isWithin(need, 0, MOST_PULL) && isWithin(engine, 0, MOST_PULL));
        return now.ships.within(need, engine);
    }

    public int price(int need, int engine, int bonus, int malus) throws IllegalArgumentException {
        demand(isWithin(need, 0, MOST_PULL) && isWithin(engine, 0, MOST_PULL));
        demand(isWithin(bonus, 0, MOST_COIN) && isWithin(malus, 0, MOST_COIN));
        int kept = now.ships.within(need, engine);
        return bonus * kept - malus * (now.ships.usual() - kept);
    }

    public int foul(int months, int hundredths) throws IllegalArgumentException {
        demand(isWithin(months, 0, MOST_FOUL) && isWithin(hundredths, 0, MOST_FOUL));
        return now.addFouling(months, hundredths);
    }

    public int grown(int months) throws IllegalArgumentException {
        demand(isWithin(months, 0, MOST_FOUL));
        return now.fouledBy(months);
    }

    public int image() {
        if (imageCount >= images.length) {
            return NONE;
        }
        images[imageCount].copyFrom(now);
        imageCount++;
        return imageCount;
    }

    public int restore() {
        if (imageCount <= 0 || imageCount > images.length) {
            return NONE;
        }
        imageCount--;
        now.copyFrom(images[imageCount]);
        return imageCount;
    }

    public int count(int what) {
        switch (what) {
            case 0: return now.hullCount;
            case 1: return now.tankWidths.filled();
            case 2: return laws.filled();
            case 3: return ways.filled();
            case 4: return now.runCount();
            case 5: return now.ships.known();
            case 6: return now.mileSpeeds.filled();
            case 7: return now.foulMonths.filled();
            case 8: return imageCount;
            case 9: return tape.filled();
            case 10: return now.seed;
            default: return NONE;
        }
    }

    private void feedBytes(int number) {
        for (int shift = 24; shift >= 0; shift -= 8) {
            tape.add((number >>> shift) & 255);
        }
    }

    private static void demand(boolean holds) {
        if (!holds) {
            throw new IllegalArgumentException();
        }
    }

    private void demandAnyHull() {
        if (now.hullCount == 0) {
            throw new IllegalStateException();
        }
    }

    private Hull demandHull(int number) {
        Hull found = now.hullAt(number);
        if (found == null) {
            throw new NoSuchElementException();
        }
        return found;
    }

    private void demandTank(int number) {
        if (!isWithin(number, NONE, now.tankWidths.filled() - 1)) {
            throw new IndexOutOfBoundsException();
        }
    }

    private static Program demandProgram(Shelf shelf, int number) {
        Program found = shelf.at(number);
        if (found == null) {
            throw new IndexOutOfBoundsException();
        }
        return found;
    }

    private static boolean isWithin(int value, int least, int most) {
        return value >= least && value <= most;
    }

    /** The document's division: it cuts, and by 0 it is 0. */
    private static long over(long value, long by) {
        return by == 0 ? 0 : value / by;
    }

    private static long hundredths(long value, long of) {
        return value * of / 100;
    }

    private static long distance(long one, long other) {
        return one >= other ? one - other : other - one;
    }

    /** Bit by bit from above: a double would err near the squares of large numbers. */
    private static long rootOf(long value) {
        if (value < 0) {
            return 0;
        }
        long root = 0;
        for (int bit = 31; bit >= 0; bit--) {
            long tried = root + (1L << bit);
            if (tried <= 3037000499L && tried * tried <= value) {
                root = tried;
            }
        }
        return root;
    }

    /** A row of numbers with room for so many and no more. */
    private static final class Row {
        private final int[] cells;
        private int filled;

        Row(int most) {
            cells = new int[most > 0 ? most : 0];
        }

        int filled() {
            return filled;
        }

        boolean isFull() {
            return filled >= cells.length;
        }

        int at(int k) {
            return k >= 0 && k < filled && k < cells.length ? cells[k] : 0;
        }

        void add(int value) {
            if (filled < cells.length) {
                cells[filled] = value;
                filled++;
            }
        }

        void empty() {
            filled = 0;
        }

        void copyFrom(Row other) {
            empty();
            for (int i = 0; i < other.filled; i++) {
                add(other.at(i));
            }
        }
    }

    private static final class Hull {
        private int length;
        private int stations;
        private final int[] beams;
        private final int[] drafts;

        Hull() {
            beams = new int[MOST_STATIONS];
            drafts = new int[MOST_STATIONS];
        }

        void lay(int newLength, int newStations) {
            length = newLength;
            stations = newStations;
            Arrays.fill(beams, FIRST_BEAM);
            Arrays.fill(drafts, FIRST_DRAFT);
        }

        boolean hasStation(int station) {
            return station >= 0 && station < stations && station < MOST_STATIONS;
        }

        int beamAt(int station) {
            return hasStation(station) ? beams[station] : 0;
        }

        int draftAt(int station) {
            return hasStation(station) ? drafts[station] : 0;
        }

        void shape(int station, int beam, int draft) {
            if (hasStation(station)) {
                beams[station] = beam;
                drafts[station] = draft;
            }
        }

        boolean canExchange(int kind, int giver, int getter) {
            if (giver == getter || !hasStation(giver) || !hasStation(getter)) {
                return false;
            }
            int[] row = kind == 0 ? beams : drafts;
            return row[giver] > 0 && row[getter] < MOST_LINE;
        }

        void exchange(int kind, int giver, int getter) {
            if (canExchange(kind, giver, getter)) {
                int[] row = kind == 0 ? beams : drafts;
                row[giver]--;
                row[getter]++;
            }
        }

        void copyFrom(Hull other) {
            length = other.length;
            stations = other.stations;
            System.arraycopy(other.beams, 0, beams, 0, MOST_STATIONS);
            System.arraycopy(other.drafts, 0, drafts, 0, MOST_STATIONS);
        }
    }

    /** What a MODEL measures; one object serves for many of them, one after the other. */
    private static final class Model {
        private int length;
        private int wet;
        private int volume;
        private int beam;
        private int draft;
        private int section;

        void measure(Hull hull, int scale) {
            int around = 0;
            int under = 0;
            int widest = 0;
            int deepest = 0;
            int fullest = 0;
            for (int i = 0; i < hull.stations && i < MOST_STATIONS; i++) {
                int across = hull.beams[i];
                int down = hull.drafts[i];
                around += across + 2 * down;
                under += across * down;
                widest = Math.max(widest, across);
                deepest = Math.max(deepest, down);
                fullest = Math.max(fullest, across * down);
            }
            length = scale > 0 && scale < hull.length ? hull.length / scale : 1;
            long square = (long) length * length;
            wet = (int) over(square * around, 100L * hull.stations);
            volume = (int) over(square * length * under, 10000L * hull.stations);
            beam = widest * length / 100;
            draft = deepest * length / 100;
            section = (int) (square * fullest / 10000);
        }

        int part(int what) {
            switch (what) {
                case 0: return length;
                case 1: return wet;
                case 2: return volume;
                case 3: return beam;
                case 4: return draft;
                default: return section;
            }
        }
    }

    private static final class Running {
        private int hull;
        private int scale;
        private int speed;
        private int tank;
        private boolean wire;
        private int months;

        Running() {
            scale = 1;
            speed = 1;
            tank = NONE;
        }

        void place(int newHull, int newScale, int newSpeed, int newTank) {
            hull = newHull;
            scale = newScale;
            speed = newSpeed;
            tank = newTank;
        }

        void dress(boolean newWire, int newMonths) {
            wire = newWire;
            months = newMonths;
        }

        void copyFrom(Running other) {
            place(other.hull, other.scale, other.speed, other.tank);
            dress(other.wire, other.months);
        }
    }

    /** EARLIER ships: only their RATIOS are ever asked for. */
    private static final class Ships {
        private final Row ratios;

        Ships() {
            ratios = new Row(MOST_EARLIER);
        }

        int known() {
            return ratios.filled();
        }

        int ratioAt(int k) {
            return ratios.at(k);
        }

        int addShip(int foretold, int was) {
            if (ratios.isFull()) {
                return NONE;
            }
            long cut = over(1000L * was, foretold);
            ratios.add(cut > 2147483647L ? 2147483647 : (int) cut);
            return ratios.filled();
        }

        /** The one with fewer below it than its place when sorted, found without sorting. */
        int middle() {
            int place = (known() - 1) / 2;
            for (int i = 0; i < known(); i++) {
                int below = 0;
                int notAbove = 0;
                for (int j = 0; j < known(); j++) {
                    below += ratioAt(j) < ratioAt(i) ? 1 : 0;
                    notAbove += ratioAt(j) <= ratioAt(i) ? 1 : 0;
                }
                if (below <= place && place < notAbove) {
                    return ratioAt(i);
                }
            }
            return 0;
        }

        int strangeBits(int by) {
            int middle = middle();
            int bits = 0;
            for (int i = 0; i < known(); i++) {
                if (distance(ratioAt(i), middle) > by) {
                    bits |= 1 << i;
                }
            }
            return bits;
        }

        int usual() {
            return known() - Integer.bitCount(strangeBits(USUAL_STRANGE));
        }

        long spanOf(int need, boolean most) {
            int strange = strangeBits(USUAL_STRANGE);
            int chosen = NONE;
            for (int i = 0; i < known(); i++) {
                int ratio = ratioAt(i);
                boolean counts = (strange >> i & 1) == 0;
                if (counts && (chosen == NONE || (most ? ratio > chosen : ratio < chosen))) {
                    chosen = ratio;
                }
            }
            return chosen == NONE ? need : (long) need * chosen / 1000;
        }

        int within(int need, int engine) {
            int strange = strangeBits(USUAL_STRANGE);
            int many = 0;
            for (int i = 0; i < known(); i++) {
                boolean counts = (strange >> i & 1) == 0;
                if (counts && (long) need * ratioAt(i) / 1000 <= engine) {
                    many++;
                }
            }
            return many;
        }

        void copyFrom(Ships other) {
            ratios.copyFrom(other.ratios);
        }
    }

    /** All that an IMAGE keeps. */
    private static final class World {
        private final Hull[] hulls;
        private int hullCount;
        private final Row tankWidths;
        private final Row tankDepths;
        private final Running hand;
        private final Row runs;
        private final Ships ships;
        private final Row mileSpeeds;
        private final Row foulMonths;
        private final Row foulHundredths;
        private int seed;

        World() {
            hulls = new Hull[MOST_HULLS];
            for (int i = 0; i < hulls.length; i++) {
                hulls[i] = new Hull();
            }
            tankWidths = new Row(MOST_TANKS);
            tankDepths = new Row(MOST_TANKS);
            hand = new Running();
            runs = new Row(MOST_RUNS * RUN_CELLS);
            ships = new Ships();
            mileSpeeds = new Row(MOST_MILE_RUNS);
            foulMonths = new Row(MOST_FOUL_ROWS);
            foulHundredths = new Row(MOST_FOUL_ROWS);
            seed = 1;
        }

        void copyFrom(World other) {
            for (int i = 0; i < hulls.length && i < other.hulls.length; i++) {
                hulls[i].copyFrom(other.hulls[i]);
            }
            hullCount = other.hullCount;
            tankWidths.copyFrom(other.tankWidths);
            tankDepths.copyFrom(other.tankDepths);
            hand.copyFrom(other.hand);
            runs.copyFrom(other.runs);
            ships.copyFrom(other.ships);
            mileSpeeds.copyFrom(other.mileSpeeds);
            foulMonths.copyFrom(other.foulMonths);
            foulHundredths.copyFrom(other.foulHundredths);
            seed = other.seed;
        }

        Hull hullAt(int number) {
            boolean stands = number >= 0 && number < hullCount && number < hulls.length;
            return stands ? hulls[number] : null;
        }

        int addHull(int length, int stations) {
            if (hullCount >= hulls.length) {
                return NONE;
            }
            hulls[hullCount].lay(length, stations);
            hullCount++;
            return hullCount - 1;
        }

        int addTank(int width, int depth) {
            if (tankWidths.isFull()) {
                return NONE;
            }
            tankWidths.add(width);
            tankDepths.add(depth);
            return tankWidths.filled() - 1;
        }

        int runCount() {
            return runs.filled() / RUN_CELLS;
        }

        int runCell(int run, int what) {
            return runs.at(run * RUN_CELLS + what);
        }

        int addRun(int pull) {
            if (runs.isFull()) {
                return NONE;
            }
            runs.add(hand.hull);
            runs.add(hand.scale);
            runs.add(hand.speed);
            runs.add(hand.tank);
            runs.add(hand.wire ? 1 : 0);
            runs.add(hand.months);
            runs.add(pull);
            return runCount() - 1;
        }

        void fetchRun(int run, Running into) {
            into.place(runCell(run, 0), runCell(run, 1), runCell(run, 2), runCell(run, 3));
            into.dress(runCell(run, 4) == 1, runCell(run, 5));
        }

        /** Bits 16 to 30 alone: the low ones of such a row repeat too soon. */
        int drawOf(int many) {
            seed = seed * 1103515245 + 12345;
            return many > 0 ? (seed >>> 16 & 32767) % many : 0;
        }

        /** How often means of means count a run: the numbers of Pascal's triangle. */
        int mileSum(boolean turns) {
            int last = mileSpeeds.filled() - 1;
            int often = 1;
            int sum = 0;
            for (int i = 0; i <= last; i++) {
                int part = often * mileSpeeds.at(i);
                sum += turns && i % 2 == 1 ? -part : part;
                often = often * (last - i) / (i + 1);
            }
            return sum;
        }

        int addFouling(int months, int hundredths) {
            if (foulMonths.isFull()) {
                return -1;
            }
            int rows = foulMonths.filled();
            if (rows > 0 && months <= foulMonths.at(rows - 1)) {
                return -2;
            }
            foulMonths.add(months);
            foulHundredths.add(hundredths);
            return foulMonths.filled();
        }

        int fouledBy(int months) {
            int rows = foulMonths.filled();
            int behind = 0;
            for (int i = 0; i < rows && foulMonths.at(i) <= months; i++) {
                behind++;
            }
            if (behind == 0) {
                return foulHundredths.at(0);
            }
            int from = foulHundredths.at(behind - 1);
            if (behind == rows) {
                return from;
            }
            int start = foulMonths.at(behind - 1);
            long rise = (long) (foulHundredths.at(behind) - from) * (months - start);
            return from + (int) over(rise, foulMonths.at(behind) - start);
        }
    }

    /** The steps of a LAW or a WAY, each behind what it works on. */
    private static final class Program {
        private final int[] steps;

        Program(int[] newSteps) {
            steps = newSteps;
        }
    }

    private static final class Shelf {
        private final Program[] programs;
        private int filled;

        Shelf(int most) {
            programs = new Program[most > 0 ? most : 0];
        }

        int filled() {
            return filled;
        }

        boolean isFull() {
            return filled >= programs.length;
        }

        int put(Program program) {
            if (filled < programs.length) {
                programs[filled] = program;
                filled++;
            }
            return filled - 1;
        }

        Program at(int number) {
            boolean stands = number >= 0 && number < filled && number < programs.length;
            return stands ? programs[number] : null;
        }
    }

    /**
     * Reads a text into a Program. After a FAULT the token is BROKEN, which
     * nothing takes, so that all that is open comes back without reading on.
     */
    private static final class Reader {
        private static final int END = -1;
        private static final int NUMBER = -2;
        private static final int UNKNOWN = -3;
        private static final int BROKEN = -4;

        private static final int CANNOT_STAND = 1;
        private static final int TOO_LARGE = 2;
        private static final int TOO_MANY = 3;

        private static final int MOST_CLAUSES = 16;
        private static final int MOST_OPEN = 6;
        private static final int MOST_NUMBER = 9999;

        private static final int EITHER = 0;
        private static final int BOTH = 1;
        private static final int SUM = 2;
        private static final int PRODUCT = 3;

        private final int[] steps;
        private int stepCount;
        private final int[] text;
        private int length;
        private int next;
        private int start;
        private int token;
        private int number;
        private int open;
        private int fault;
        private int faultPlace;

        Reader() {
            steps = new int[MOST_BYTES];
            text = new int[MOST_BYTES];
        }

        /** Tells the kind of the FAULT, 0 without. */
        int readText(Row tape, int bytes, boolean way) {
            length = Math.max(0, Math.min(bytes, text.length));
            for (int i = 0; i < length; i++) {
                text[i] = tape.at(i);
            }
            stepCount = 0;
            next = 0;
            open = 0;
            fault = 0;
            faultPlace = NONE;
            advance();
            for (int i = 0; i <= MOST_CLAUSES && token != END && fault == 0; i++) {
                readClause(way, i);
            }
            return fault;
        }

        int placeOfFault() {
            return faultPlace;
        }

        Program finished() {
            return new Program(Arrays.copyOf(steps, stepCount));
        }

        private void readClause(boolean way, int ahead) {
            int word = token - FIRST_WORD;
            boolean fitting = way ? isWithin(word, OFF, MORE) : isWithin(word, SKIN, FOUL);
            if (!fitting) {
                fail(CANNOT_STAND);
            } else if (ahead >= MOST_CLAUSES) {
                fail(TOO_MANY);
            } else {
                advance();
                readChain(SUM);
                boolean bound = token == IF;
                if (bound) {
                    advance();
                    readChain(EITHER);
                }
                take(';');
                emit(bound ? TELL_IF : TELL, word);
            }
        }

        /** C, A, E and T are all parts of one kind with joints of one kind between. */
        private void readChain(int level) {
            readPart(level);
            for (int i = 0; i < length && isJoint(level); i++) {
                int joint = token;
                advance();
                readPart(level);
                emit(joint, 0);
            }
        }

        private boolean isJoint(int level) {
            switch (level) {
                case EITHER: return token == OR;
                case BOTH: return token == AND;
                case SUM: return token == '+' || token == '-';
                default: return token == '*' || token == '/';
            }
        }

        private void readPart(int level) {
            switch (level) {
                case EITHER: readChain(BOTH); break;
                case BOTH: readTest(); break;
                case SUM: readChain(PRODUCT); break;
                default: readUnit(); break;
            }
        }

        private void readTest() {
            if (token == NOT) {
                if (opens()) {
                    advance();
                    readTest();
                    open--;
                    emit(NOT, 0);
                }
            } else if (token == '[') {
                if (opens()) {
                    advance();
                    readChain(EITHER);
                    take(']');
                    open--;
                }
            } else {
                readComparison();
            }
        }

        private void readComparison() {
            readChain(SUM);
            int relation = token;
            if (relation == '<' || relation == '>' || relation == '=') {
                advance();
                readChain(SUM);
                emit(relation, 0);
            } else {
                fail(CANNOT_STAND);
            }
        }

        private void readUnit() {
            int unit = token;
            if (unit == NUMBER) {
                readNumber();
            } else if (isWithin(unit, FIRST_NAME, FIRST_NAME + NAMES - 1)) {
                emit(PUT_NAME, unit - FIRST_NAME);
                advance();
            } else if (unit == '(') {
                readInside(false);
            } else if (unit == ROOT || unit == LEAST || unit == MOST) {
                advance();
                readInside(unit != ROOT);
                emit(unit, 0);
            } else {
                fail(CANNOT_STAND);
            }
        }

        private void readNumber() {
            if (number > MOST_NUMBER) {
                fail(TOO_LARGE);
            } else {
                emit(PUT_NUMBER, number);
                advance();
            }
        }

        private void readInside(boolean two) {
            if (token != '(') {
                fail(CANNOT_STAND);
            } else if (opens()) {
                advance();
                readChain(SUM);
                if (two) {
                    take(',');
                    readChain(SUM);
                }
                take(')');
                open--;
            }
        }

        /** The guard of all recursion here: none goes on but through it. */
        private boolean opens() {
            if (open >= MOST_OPEN) {
                fail(TOO_MANY);
                return false;
            }
            open++;
            return true;
        }

        private void take(int sign) {
            if (token == sign) {
                advance();
            } else {
                fail(CANNOT_STAND);
            }
        }

        private void fail(int kind) {
            if (fault == 0) {
                fault = kind;
                faultPlace = start;
            }
            token = BROKEN;
        }

        private void emit(int step, int operand) {
            if (stepCount < steps.length) {
                steps[stepCount] = operand * STEP_ROOM + step;
                stepCount++;
            }
        }

        private void advance() {
            int place = next;
            while (place < length && text[place] == ' ') {
                place++;
            }
            start = place;
            next = place;
            if (place >= length) {
                token = END;
            } else if (isDigit(text[place])) {
                scanNumber();
            } else if (isLetter(text[place])) {
                while (next < length && isLetter(text[next])) {
                    next++;
                }
                token = wordBetween(start, next);
            } else {
                token = text[place];
                next = place + 1;
            }
        }

        private static boolean isDigit(int sign) {
            return sign >= '0' && sign <= '9';
        }

        private static boolean isLetter(int sign) {
            return sign >= 'a' && sign <= 'z';
        }

        private void scanNumber() {
            token = NUMBER;
            number = 0;
            while (next < length && isDigit(text[next])) {
                number = Math.min(number * 10 + text[next] - '0', MOST_NUMBER + 1);
                next++;
            }
        }

        private int wordBetween(int from, int to) {
            int word = FIRST_WORD;
            int at = from;
            boolean same = true;
            for (int i = 0; i <= WORDS.length(); i++) {
                char sign = i < WORDS.length() ? WORDS.charAt(i) : ' ';
                if (sign != ' ') {
                    same = same && at < to && text[at] == sign;
                    at++;
                } else if (same && at == to) {
                    return word;
                } else {
                    word++;
                    at = from;
                    same = true;
                }
            }
            return UNKNOWN;
        }
    }

    /** Works a Program by the names of a RUNNING, and keeps what its words told. */
    private static final class Worker {
        /** Six open, each with at most three that wait, and what waits outside. */
        private static final int STACK_ROOM = 64;
        private static final long MOST_SHARE = 10000;

        private final long[] names;
        private final long[] told;
        private final long[] stack;
        private int top;
        private long skin;
        private long all;

        Worker() {
            names = new long[NAMES];
            told = new long[TOLD_WORDS];
            stack = new long[STACK_ROOM];
        }

        void work(Program program) {
            Arrays.fill(told, 0);
            top = 0;
            int[] steps = program.steps;
            for (int i = 0; i < steps.length; i++) {
                int step = steps[i] % STEP_ROOM;
                int operand = steps[i] / STEP_ROOM;
                switch (step) {
                    case PUT_NUMBER: push(operand); break;
                    case PUT_NAME: push(nameAt(operand)); break;
                    case TELL: tell(operand, pop(), true); break;
                    case TELL_IF: boolean holds = pop() != 0; tell(operand, pop(), holds); break;
                    case ROOT: push(rootOf(pop())); break;
                    case NOT: push(pop() == 0 ? 1 : 0); break;
                    default: long right = pop(); push(joined(step, pop(), right)); break;
                }
            }
        }

        private static long joined(int step, long left, long right) {
            switch (step) {
                case '+': return left + right;
                case '-': return left - right;
                case '*': return left * right;
                case '/': return right == 0 ? 0 : left / right;
                case LEAST: return left <= right ? left : right;
                case MOST: return left >= right ? left : right;
                case '<': return left < right ? 1 : 0;
                case '>': return left > right ? 1 : 0;
                case '=': return left == right ? 1 : 0;
                case AND: return left & right;
                default: return left | right;
            }
        }

        private void push(long value) {
            if (top < stack.length) {
                stack[top] = value;
                top++;
            }
        }

        private long pop() {
            if (top <= 0 || top > stack.length) {
                return 0;
            }
            top--;
            return stack[top];
        }

        private void tell(int word, long value, boolean holds) {
            if (holds && word >= 0 && word < told.length) {
                told[word] = value;
            }
        }

        long nameAt(int which) {
            return which >= 0 && which < names.length ? names[which] : 0;
        }

        void giveName(int which, long value) {
            if (which >= 0 && which < names.length) {
                names[which] = value;
            }
        }

        long toldOf(int word) {
            if (word < 0 || word >= told.length || told[word] < 0) {
                return 0;
            }
            boolean share = word == FOUL || word == SIDES || word == MORE;
            return Math.min(told[word], share ? MOST_SHARE : MOST_PULL);
        }

        /** PULL by what a LAW told; SKIN and ALL are left for who asks. */
        long addUp() {
            long bare = toldOf(SKIN);
            skin = bare + hundredths(bare, toldOf(FOUL));
            all = skin + toldOf(WAVE) + toldOf(EDDY);
            return all + hundredths(all, toldOf(SIDES));
        }
    }

    /** Where PULLS and NEEDS are worked out; its scratch objects are made once. */
    private static final class Bench {
        private final World world;
        private final Worker worker;
        private final Model model;
        private final Running tried;
        private final Running ship;
        private long betterPull;
        private int betterKind;
        private int betterGiver;
        private int betterGetter;

        Bench(World newWorld) {
            world = newWorld;
            worker = new Worker();
            model = new Model();
            tried = new Running();
            ship = new Running();
        }

        int modelPart(Hull hull, int scale, int what) {
            model.measure(hull, scale);
            return model.part(what);
        }

        int nameAtHand(int which) {
            nameAll(world.hand);
            return (int) worker.nameAt(which);
        }

        private void nameAll(Running running) {
            Hull hull = world.hullAt(running.hull);
            if (hull == null) {
                return;
            }
            model.measure(hull, running.scale);
            worker.giveName(0, model.length);
            worker.giveName(1, running.speed);
            worker.giveName(2, model.wet);
            worker.giveName(3, model.volume);
            worker.giveName(4, model.beam);
            worker.giveName(5, model.draft);
            worker.giveName(6, over(100L * running.speed * running.speed, model.length));
            worker.giveName(7, running.wire ? 1 : 0);
            worker.giveName(8, sideOf(running.tank));
            worker.giveName(9, running.months);
        }

        /** In open water there is no such row of tanks, and division by its 0 is 0. */
        private long sideOf(int tank) {
            return over(100L * model.section, (long) world.tankWidths.at(tank) * world.tankDepths.at(tank));
        }

        private long toldBy(Program way, Running running, int word) {
            nameAll(running);
            worker.work(way);
            return worker.toldOf(word);
        }

        private long pullOf(Program law, Running running) {
            nameAll(running);
            worker.work(law);
            return worker.addUp();
        }

        /** The HULL at hand in open water, without a WIRE, at 0 months. */
        private Running calm(int scale, int speed) {
            tried.place(world.hand.hull, scale, speed, NONE);
            tried.dress(false, 0);
            return tried;
        }

        /** The RUNNING at hand at another SCALE, in another TANK. */
        private Running moved(int scale, int tank) {
            tried.copyFrom(world.hand);
            tried.scale = scale;
            tried.tank = tank;
            return tried;
        }

        long pullPart(Program law, int what) {
            long whole = pullOf(law, world.hand);
            switch (what) {
                case 0: return whole;
                case 1: return worker.skin;
                case 2: return worker.toldOf(WAVE);
                case 3: return worker.toldOf(EDDY);
                default: return worker.all;
            }
        }

        long needPart(Program way, Running running, long pull, int what) {
            long k = running.scale;
            long shipSpeed = Math.min(rootOf(k * running.speed * running.speed), MOST_SPEED);
            if (what == 3) {
                return shipSpeed;
            }
            long rest = Math.max(pull - toldBy(way, running, OFF), 0);
            if (what == 0) {
                return rest;
            }
            long grown = rest * k * k * k;
            if (what == 1) {
                return grown;
            }
            ship.place(running.hull, 1, (int) shipSpeed, NONE);
            ship.dress(false, running.months);
            long added = grown + toldBy(way, ship, ADD);
            return added + hundredths(added, worker.toldOf(MORE));
        }

        long errorOf(Program law, Program way, int speed, int scale) {
            long due = pullOf(law, calm(1, speed));
            return distance(foretoldNeed(law, way, speed, scale), due);
        }

        private long foretoldNeed(Program law, Program way, int speed, int scale) {
            long modelSpeed = Math.max(rootOf(over((long) speed * speed, scale)), 1);
            Running towed = calm(scale, (int) modelSpeed);
            long pull = Math.min(pullOf(law, towed), MOST_PULL);
            return needPart(way, towed, pull, 2);
        }

        int bestScale(Program law, Program way, int speed, int coin) {
            Hull hull = world.hullAt(world.hand.hull);
            if (hull == null) {
                return NONE;
            }
            long due = pullOf(law, calm(1, speed));
            int best = NONE;
            long least = 0;
            for (int scale = 2; scale <= MOST_SCALE; scale++) {
                long error = distance(foretoldNeed(law, way, speed, scale), due);
                long together = error + (long) coin * modelPart(hull, scale, 0);
                if (best == NONE || together < least) {
                    best = scale;
                    least = together;
                }
            }
            return best;
        }

        long sidesAtHand(Program law) {
            long open = pullOf(law, moved(world.hand.scale, NONE));
            return pullOf(law, world.hand) - open;
        }

        int leastScaleWithin(Program law, int o) {
            for (int scale = 1; scale <= MOST_SCALE; scale++) {
                long open = pullOf(law, moved(scale, NONE));
                long inTank = pullOf(law, moved(scale, world.hand.tank));
                if (inTank - open <= hundredths(open, o)) {
                    return scale;
                }
            }
            return NONE;
        }

        int drawnPull(Program law, int spread) {
            long whole = Math.min(pullOf(law, world.hand), MOST_PULL);
            long drawn = whole + hundredths(whole, world.drawOf(2 * spread + 1) - spread);
            return (int) Math.min(Math.max(drawn, 0), MOST_PULL);
        }

        long wirePart() {
            long sumWith = 0;
            long sumWithout = 0;
            int with = 0;
            int without = 0;
            for (int i = 0; i < world.runCount(); i++) {
                if (!isAtHand(i)) {
                    continue;
                }
                if (world.runCell(i, 4) == 1) {
                    sumWith += world.runCell(i, 6);
                    with++;
                } else {
                    sumWithout += world.runCell(i, 6);
                    without++;
                }
            }
            return with == 0 || without == 0 ? 0 : sumWith * without - sumWithout * with;
        }

        private boolean isAtHand(int run) {
            return world.runCell(run, 0) == world.hand.hull
                    && world.runCell(run, 1) == world.hand.scale
                    && world.runCell(run, 2) == world.hand.speed;
        }

        int fittingLaws(Shelf laws, int o) {
            int bits = 0;
            for (int i = 0; i < laws.filled(); i++) {
                Program law = laws.at(i);
                if (law != null && isFitting(law, o)) {
                    bits |= 1 << i;
                }
            }
            return bits;
        }

        private boolean isFitting(Program law, int o) {
            for (int i = 0; i < world.runCount(); i++) {
                world.fetchRun(i, tried);
                long whole = pullOf(law, tried);
                if (distance(world.runCell(i, 6), whole) > hundredths(whole, o)) {
                    return false;
                }
            }
            return true;
        }

        int tellingSpeed(Shelf laws, int fitting) {
            if (Integer.bitCount(fitting) < 2) {
                return NONE;
            }
            int best = NONE;
            long widest = 0;
            for (int speed = 1; speed <= MOST_SPEED; speed++) {
                long apart = apartAt(laws, fitting, speed);
                if (best == NONE || apart > widest) {
                    best = speed;
                    widest = apart;
                }
            }
            return best;
        }

        private long apartAt(Shelf laws, int fitting, int speed) {
            long least = NONE;
            long most = NONE;
            for (int i = 0; i < laws.filled(); i++) {
                Program law = laws.at(i);
                if (law != null && (fitting >> i & 1) == 1) {
                    long whole = pullOf(law, calm(world.hand.scale, speed));
                    least = least == NONE ? whole : Math.min(least, whole);
                    most = Math.max(most, whole);
                }
            }
            return most - least;
        }

        /** Leaves the BETTER EXCHANGE for betterPart and makeBetter, if there is one. */
        boolean seekBetter(Program law) {
            Hull hull = world.hullAt(world.hand.hull);
            if (hull == null) {
                return false;
            }
            int volume = modelPart(hull, 1, 2);
            betterPull = pullOf(law, world.hand);
            betterKind = NONE;
            for (int kind = 0; kind < 2; kind++) {
                for (int giver = 0; giver < hull.stations; giver++) {
                    for (int getter = 0; getter < hull.stations; getter++) {
                        if (hull.canExchange(kind, giver, getter)) {
                            hull.exchange(kind, giver, getter);
                            weigh(law, modelPart(hull, 1, 2) >= volume, kind, giver, getter);
                            hull.exchange(kind, getter, giver);
                        }
                    }
                }
            }
            return betterKind != NONE;
        }

        private void weigh(Program law, boolean allowed, int kind, int giver, int getter) {
            if (!allowed) {
                return;
            }
            long whole = pullOf(law, world.hand);
            if (whole < betterPull) {
                betterPull = whole;
                betterKind = kind;
                betterGiver = giver;
                betterGetter = getter;
            }
        }

        long betterPart(int what) {
            switch (what) {
                case 0: return betterKind;
                case 1: return betterGiver;
                case 2: return betterGetter;
                default: return betterPull;
            }
        }

        void makeBetter() {
            Hull hull = world.hullAt(world.hand.hull);
            if (hull != null) {
                hull.exchange(betterKind, betterGiver, betterGetter);
            }
        }
    }
}
