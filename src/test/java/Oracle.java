import java.util.ArrayList;
import java.util.Collections;
import java.util.HashMap;
import java.util.List;
import java.util.Map;
import java.util.NoSuchElementException;

/**
 * A second, slow reading of the document with the same face, to hold the class
 * against: texts are worked straight from their tokens, nothing is kept ready.
 */
final class Oracle {
    private static final List<String> NAMES = List.of("length", "speed", "wet", "volume", "beam", "draft", "fn",
            "wire", "side", "months");
    private static final long BILLION = 1000000000L;

    private record Hull(int length, List<int[]> lines) {
        Hull copy() {
            List<int[]> copied = new ArrayList<>();
            lines.forEach(l -> copied.add(l.clone()));
            return new Hull(length, copied);
        }

        int most(int which) {
            return lines.stream().mapToInt(l -> which < 2 ? l[which] : l[0] * l[1]).max().orElse(0);
        }

        long[] model(int scale) {
            long n = lines.size();
            long long1 = Math.max(1, length / scale);
            long round = lines.stream().mapToLong(l -> l[0] + 2 * l[1]).sum();
            long under = lines.stream().mapToLong(l -> l[0] * l[1]).sum();
            return new long[] {long1, long1 * long1 * round / (100 * n), long1 * long1 * long1 * under / (10000 * n),
                most(0) * long1 / 100, most(1) * long1 / 100, most(2) * long1 * long1 / 10000};
        }
    }

    private record Running(int hull, int scale, int speed, int tank, boolean wire, int months) { }

    private record Run(Running of, int pull) { }

    private static final class State {
        List<Hull> hulls = new ArrayList<>();
        List<int[]> tanks = new ArrayList<>();
        Running hand = new Running(0, 1, 1, -1, false, 0);
        List<Run> runs = new ArrayList<>();
        List<Integer> ratios = new ArrayList<>();
        List<Integer> mile = new ArrayList<>();
        List<int[]> fouling = new ArrayList<>();
        int seed = 1;

        State copy() {
            State s = new State();
            hulls.forEach(h -> s.hulls.add(h.copy()));
            s.tanks.addAll(tanks);
            s.hand = hand;
            s.runs.addAll(runs);
            s.ratios.addAll(ratios);
            s.mile.addAll(mile);
            s.fouling.addAll(fouling);
            s.seed = seed;
            return s;
        }
    }

    private static final class Fault extends RuntimeException {
        private static final long serialVersionUID = 1L;
        final int kind;
        final int place;

        Fault(int kind, int place) {
            super(null, null, false, false);
            this.kind = kind;
            this.place = place;
        }
    }

    /** Reads a text from its first byte on, working it by names as it goes. */
    private static final class Text {
        final String text;
        final Map<String, Long> names;
        final Map<String, Long> told = new HashMap<>();
        int at;
        int open;

        Text(String text, Map<String, Long> names) {
            this.text = text;
            this.names = names;
        }

        int start() {
            int p = at;
            while (p < text.length() && text.charAt(p) == ' ') {
                p++;
            }
            return p;
        }

        /** The token ahead: digits, letters, one sign, or nothing at the end. */
        String peek() {
            int p = start();
            if (p == text.length()) {
                return "";
            }
            String class1 = Character.toString(text.charAt(p)).matches("[0-9]") ? "[0-9]+"
                    : Character.toString(text.charAt(p)).matches("[a-z]") ? "[a-z]+" : ".";
            int q = p + 1;
            while (q < text.length() && text.substring(p, q + 1).matches(class1)) {
                q++;
            }
            return text.substring(p, q);
        }

        void next() {
            at = start() + peek().length();
        }

        Fault wrong() {
            return new Fault(1, start());
        }

        boolean took(String token) {
            boolean here = peek().equals(token);
            if (here) {
                next();
            }
            return here;
        }

        void want(String token) {
            if (!took(token)) {
                throw wrong();
            }
        }

        void opening() {
            if (open == 6) {
                throw new Fault(3, start());
            }
            open++;
            next();
        }

        void work(List<String> words) {
            for (int clauses = 0; !peek().isEmpty(); clauses++) {
                String word = peek();
                if (!words.contains(word)) {
                    throw wrong();
                }
                if (clauses == 16) {
                    throw new Fault(3, start());
                }
                next();
                long value = sum();
                boolean holds = !took("if") || either();
                want(";");
                if (holds) {
                    told.put(word, value);
                }
            }
        }

        long sum() {
            long left = product();
            while (true) {
                if (took("+")) {
                    left += product();
                } else if (took("-")) {
                    left -= product();
                } else {
                    return left;
                }
            }
        }

        long product() {
            long left = unit();
            while (true) {
                if (took("*")) {
                    left *= unit();
                } else if (took("/")) {
                    long right = unit();
                    left = right == 0 ? 0 : left / right;
                } else {
                    return left;
                }
            }
        }

        long unit() {
            String token = peek();
            if (token.matches("[0-9]+")) {
                if (new java.math.BigInteger(token).bitLength() > 31 || Long.parseLong(token) > 9999) {
                    throw new Fault(2, start());
                }
                next();
                return Long.parseLong(token);
            }
            if (NAMES.contains(token)) {
                next();
                return names.get(token);
            }
            if (token.equals("least") || token.equals("most")) {
                next();
                bracket("(");
                long one = sum();
                want(",");
                long other = sum();
                close(")");
                return token.equals("least") ? Math.min(one, other) : Math.max(one, other);
            }
            boolean root = took("root");
            bracket("(");
            long value = sum();
            close(")");
            return root ? root(value) : value;
        }

        void bracket(String sign) {
            if (!peek().equals(sign)) {
                throw wrong();
            }
            opening();
        }

        void close(String sign) {
            want(sign);
            open--;
        }

        boolean either() {
            boolean left = both();
            while (took("or")) {
                left |= both();
            }
            return left;
        }

        boolean both() {
            boolean left = test();
            while (took("and")) {
                left &= test();
            }
            return left;
        }

        boolean test() {
            if (peek().equals("not")) {
                opening();
                boolean holds = test();
                open--;
                return !holds;
            }
            if (peek().equals("[")) {
                opening();
                boolean holds = either();
                close("]");
                return holds;
            }
            long left = sum();
            String sign = peek();
            if (!sign.matches("[<>=]")) {
                throw wrong();
            }
            next();
            long right = sum();
            return sign.equals("<") ? left < right : sign.equals(">") ? left > right : left == right;
        }

        long told(String word) {
            long most = List.of("foul", "sides", "more").contains(word) ? 10000 : BILLION;
            return Math.max(0, Math.min(most, told.getOrDefault(word, 0L)));
        }
    }

    private static final List<String> LAW_WORDS = List.of("skin", "wave", "eddy", "sides", "foul");
    private static final List<String> WAY_WORDS = List.of("off", "add", "more");

    private State s = new State();
    private final List<State> images = new ArrayList<>();
    private final List<String> laws = new ArrayList<>();
    private final List<String> ways = new ArrayList<>();
    private String tape = "";
    private int fault = -1;

    static long root(long v) {
        if (v < 0) {
            return 0;
        }
        return new java.math.BigInteger(Long.toString(v)).sqrt().longValueExact();
    }

    private static void argument(boolean holds) {
        if (!holds) {
            throw new IllegalArgumentException();
        }
    }

    private static boolean in(long v, long least, long most) {
        return least <= v && v <= most;
    }

    private void state() {
        if (s.hulls.isEmpty()) {
            throw new IllegalStateException();
        }
    }

    private static void index(boolean holds) {
        if (!holds) {
            throw new IndexOutOfBoundsException();
        }
    }

    private static void element(boolean holds) {
        if (!holds) {
            throw new NoSuchElementException();
        }
    }

    private Map<String, Long> names(Running r) {
        long[] m = s.hulls.get(r.hull).model(r.scale);
        Map<String, Long> n = new HashMap<>();
        n.put("length", m[0]);
        n.put("speed", (long) r.speed);
        n.put("wet", m[1]);
        n.put("volume", m[2]);
        n.put("beam", m[3]);
        n.put("draft", m[4]);
        n.put("fn", 100L * r.speed * r.speed / m[0]);
        n.put("wire", r.wire ? 1L : 0L);
        n.put("side", r.tank < 0 ? 0 : 100 * m[5] / s.tanks.get(r.tank)[0] / s.tanks.get(r.tank)[1]);
        n.put("months", (long) r.months);
        return n;
    }

    private Text work(String text, Running r, List<String> words) {
        Text t = new Text(text, names(r));
        t.work(words);
        return t;
    }

    private long[] pulls(int law, Running r) {
        Text t = work(laws.get(law), r, LAW_WORDS);
        long skin = t.told("skin") * (100 + t.told("foul")) / 100;
        long all = skin + t.told("wave") + t.told("eddy");
        return new long[] {all * (100 + t.told("sides")) / 100, skin, t.told("wave"), t.told("eddy"), all};
    }

    private long[] needs(int way, Running r, long pull) {
        long k = r.scale;
        int v = (int) Math.min(99, root(k * r.speed * r.speed));
        Text ship = work(ways.get(way), new Running(r.hull, 1, v, -1, false, r.months), WAY_WORDS);
        long rest = Math.max(0, pull - work(ways.get(way), r, WAY_WORDS).told("off"));
        long grown = rest * k * k * k;
        return new long[] {rest, grown, (grown + ship.told("add")) * (100 + ship.told("more")) / 100, v};
    }

    private Running calm(int scale, int speed) {
        return new Running(s.hand.hull, scale, speed, -1, false, 0);
    }

    private Running at(int scale, int tank) {
        return new Running(s.hand.hull, scale, s.hand.speed, tank, s.hand.wire, s.hand.months);
    }

    public int hull(int length, int stations) {
        argument(in(length, 10, 400) && in(stations, 2, 12));
        if (s.hulls.size() == 6) {
            return -1;
        }
        List<int[]> lines = new ArrayList<>();
        for (int i = 0; i < stations; i++) {
            lines.add(new int[] {10, 5});
        }
        s.hulls.add(new Hull(length, lines));
        return s.hulls.size() - 1;
    }

    public int station(int hull, int station, int beam, int draft) {
        element(in(hull, 0, s.hulls.size() - 1));
        List<int[]> lines = s.hulls.get(hull).lines;
        argument(in(station, 0, lines.size() - 1) && in(beam, 0, 60) && in(draft, 0, 60));
        int[] had = lines.set(station, new int[] {beam, draft});
        return 100 * had[0] + had[1];
    }

    public int model(int hull, int scale, int what) {
        element(in(hull, 0, s.hulls.size() - 1));
        argument(in(scale, 1, 40) && in(what, 0, 5));
        return (int) s.hulls.get(hull).model(scale)[what];
    }

    public int tank(int width, int depth) {
        argument(in(width, 1, 200) && in(depth, 1, 200));
        if (s.tanks.size() == 4) {
            return -1;
        }
        s.tanks.add(new int[] {width, depth});
        return s.tanks.size() - 1;
    }

    public int feed(int a, int b, int c, int d, int e) {
        if (tape.length() > 380) {
            return -1;
        }
        for (int n : new int[] {a, b, c, d, e}) {
            for (byte one : java.nio.ByteBuffer.allocate(4).putInt(n).array()) {
                tape += (char) (one & 255);
            }
        }
        return tape.length();
    }

    public int law(int n, boolean way) {
        argument(in(n, 0, tape.length()));
        String text = tape.substring(0, n);
        tape = "";
        fault = -1;
        List<String> kept = way ? ways : laws;
        if (kept.size() == (way ? 3 : 4)) {
            return -1;
        }
        Map<String, Long> none = new HashMap<>();
        NAMES.forEach(name -> none.put(name, 0L));
        try {
            new Text(text, none).work(way ? WAY_WORDS : LAW_WORDS);
        } catch (Fault f) {
            fault = f.place;
            return f.kind - 10;
        }
        kept.add(text);
        return kept.size() - 1;
    }

    public int fault() {
        return fault;
    }

    public int set(int hull, int scale, int speed, int tank) {
        element(in(hull, 0, s.hulls.size() - 1));
        index(in(tank, -1, s.tanks.size() - 1));
        argument(in(scale, 1, 40) && in(speed, 1, 99));
        int had = s.hand.scale;
        s.hand = new Running(hull, scale, speed, tank, s.hand.wire, s.hand.months);
        return had;
    }

    public int trim(boolean wire, int months) {
        argument(in(months, 0, 99));
        int had = s.hand.months;
        s.hand = new Running(s.hand.hull, s.hand.scale, s.hand.speed, s.hand.tank, wire, months);
        return had;
    }

    public int name(int which) {
        state();
        argument(in(which, 0, 9));
        return names(s.hand).get(NAMES.get(which)).intValue();
    }

    private void lawIs(int law) {
        state();
        index(in(law, 0, laws.size() - 1));
    }

    private void lawAndWay(int law, int way) {
        lawIs(law);
        index(in(way, 0, ways.size() - 1));
    }

    public long pull(int law, int what) {
        lawIs(law);
        argument(in(what, 0, 4));
        return pulls(law, s.hand)[what];
    }

    public long need(int way, int pull, int what) {
        state();
        index(in(way, 0, ways.size() - 1));
        argument(in(pull, 0, BILLION) && in(what, 0, 3));
        return needs(way, s.hand, pull)[what];
    }

    private long erring(int law, int way, int speed, int scale) {
        int m = 1;
        while ((m + 1) * (m + 1) * scale <= speed * speed) {
            m++;
        }
        long pull = Math.min(BILLION, pulls(law, calm(scale, m))[0]);
        return Math.abs(needs(way, calm(scale, m), pull)[2] - pulls(law, calm(1, speed))[0]);
    }

    public long error(int law, int way, int speed, int scale) {
        lawAndWay(law, way);
        argument(in(speed, 1, 99) && in(scale, 1, 40));
        return erring(law, way, speed, scale);
    }

    public int size(int law, int way, int speed, int coin) {
        lawAndWay(law, way);
        argument(in(speed, 1, 99) && in(coin, 0, 9999));
        long least = Long.MAX_VALUE;
        int best = 0;
        for (int k = 40; k >= 2; k--) {
            long both = erring(law, way, speed, k) + coin * s.hulls.get(s.hand.hull).model(k)[0];
            if (both <= least) {
                least = both;
                best = k;
            }
        }
        return best;
    }

    public long sides(int law) {
        lawIs(law);
        return pulls(law, s.hand)[0] - pulls(law, at(s.hand.scale, -1))[0];
    }

    public int widest(int law, int o) {
        lawIs(law);
        argument(in(o, 0, 99));
        for (int k = 1; k <= 40; k++) {
            long open = pulls(law, at(k, -1))[0];
            if ((pulls(law, at(k, s.hand.tank))[0] - open) * 100 <= o * open) {
                return k;
            }
        }
        return -1;
    }

    public int run(int pull) {
        state();
        argument(in(pull, 0, BILLION));
        return addRun(pull);
    }

    private int addRun(long pull) {
        if (s.runs.size() == 60) {
            return -1;
        }
        s.runs.add(new Run(s.hand, (int) pull));
        return s.runs.size() - 1;
    }

    public int tow(int law, int spread) {
        lawIs(law);
        argument(in(spread, 0, 50));
        if (s.runs.size() == 60) {
            return -1;
        }
        s.seed = s.seed * 1103515245 + 12345;
        int draw = (s.seed & 0x7FFF0000) / 65536 % (2 * spread + 1) - spread;
        long pull = Math.min(BILLION, pulls(law, s.hand)[0]);
        return addRun(Math.min(BILLION, pull + pull * draw / 100));
    }

    public int ran(int run, int what) {
        element(in(run, 0, s.runs.size() - 1));
        argument(in(what, 0, 6));
        Run r = s.runs.get(run);
        Running of = r.of;
        return new int[] {of.hull, of.scale, of.speed, of.tank, of.wire ? 1 : 0, of.months, r.pull}[what];
    }

    public int seed(int v) {
        int had = s.seed;
        s.seed = v;
        return had;
    }

    public long wire() {
        state();
        long[] sum = new long[2];
        long[] many = new long[2];
        for (Run r : s.runs) {
            if (r.of.hull == s.hand.hull && r.of.scale == s.hand.scale && r.of.speed == s.hand.speed) {
                sum[r.of.wire ? 1 : 0] += r.pull;
                many[r.of.wire ? 1 : 0]++;
            }
        }
        return many[0] * many[1] == 0 ? 0 : sum[1] * many[0] - sum[0] * many[1];
    }

    public int fits(int o) {
        argument(in(o, 0, 99));
        int bits = 0;
        for (int law = 0; law < laws.size(); law++) {
            boolean fit = true;
            for (Run r : s.runs) {
                long whole = pulls(law, r.of)[0];
                fit &= Math.abs(r.pull - whole) <= o * whole / 100;
            }
            bits += fit ? 1 << law : 0;
        }
        return bits;
    }

    public int telling(int o) {
        state();
        int bits = fits(o);
        if (Integer.bitCount(bits) < 2) {
            return -1;
        }
        int best = 0;
        long widest = -1;
        for (int v = 1; v <= 99; v++) {
            List<Long> all = new ArrayList<>();
            for (int law = 0; law < laws.size(); law++) {
                if ((bits >> law) % 2 == 1) {
                    all.add(pulls(law, calm(s.hand.scale, v))[0]);
                }
            }
            long apart = Collections.max(all) - Collections.min(all);
            if (apart > widest) {
                widest = apart;
                best = v;
            }
        }
        return best;
    }

    public int earlier(int foretold, int was) {
        argument(in(foretold, 1, BILLION) && in(was, 0, BILLION));
        if (s.ratios.size() == 20) {
            return -1;
        }
        s.ratios.add((int) Math.min(Integer.MAX_VALUE, 1000L * was / foretold));
        return s.ratios.size();
    }

    private int middle() {
        List<Integer> sorted = new ArrayList<>(s.ratios);
        Collections.sort(sorted);
        return sorted.get((sorted.size() - 1) / 2);
    }

    public int ratio(int k) {
        element(!s.ratios.isEmpty() && in(k, -1, s.ratios.size() - 1));
        return k == -1 ? middle() : s.ratios.get(k);
    }

    public int strange(int by) {
        argument(in(by, 0, 9999));
        int bits = 0;
        for (int i = 0; i < s.ratios.size(); i++) {
            bits += Math.abs((long) s.ratios.get(i) - middle()) > by ? 1 << i : 0;
        }
        return bits;
    }

    private List<Integer> usual() {
        List<Integer> kept = new ArrayList<>();
        for (int ratio : s.ratios) {
            if (Math.abs((long) ratio - middle()) <= 200) {
                kept.add(ratio);
            }
        }
        return kept;
    }

    public long span(int need, boolean most) {
        argument(in(need, 0, BILLION));
        List<Integer> kept = usual();
        return kept.isEmpty() ? need : (long) need * (most ? Collections.max(kept) : Collections.min(kept)) / 1000;
    }

    /** The hull with one EXCHANGE made, null if it is none. */
    private Hull exchanged(int kind, int gives, int gets) {
        Hull h = s.hulls.get(s.hand.hull);
        Hull then = h.copy();
        then.lines.get(gives)[kind]--;
        then.lines.get(gets)[kind]++;
        boolean allowed = gives != gets && then.lines.get(gives)[kind] >= 0 && then.lines.get(gets)[kind] <= 60
                && then.model(1)[2] >= h.model(1)[2];
        return allowed ? then : null;
    }

    private long[] seek(int law) {
        Hull h = s.hulls.get(s.hand.hull);
        long least = pulls(law, s.hand)[0];
        long[] found = null;
        for (int i = 0; i < 2 * h.lines.size() * h.lines.size(); i++) {
            int kind = i / h.lines.size() / h.lines.size();
            int gives = i / h.lines.size() % h.lines.size();
            int gets = i % h.lines.size();
            Hull then = exchanged(kind, gives, gets);
            if (then != null) {
                s.hulls.set(s.hand.hull, then);
                long pull = pulls(law, s.hand)[0];
                s.hulls.set(s.hand.hull, h);
                if (pull < least) {
                    least = pull;
                    found = new long[] {pull, kind, gives, gets};
                }
            }
        }
        return found;
    }

    public long better(int law, int what) {
        lawIs(law);
        argument(in(what, -1, 2));
        long[] found = seek(law);
        return found == null ? -1 : found[what + 1];
    }

    public int lines(int law, int many) {
        lawIs(law);
        argument(in(many, 0, 20));
        for (int made = 0; made < many; made++) {
            long[] found = seek(law);
            if (found == null) {
                return made;
            }
            s.hulls.set(s.hand.hull, exchanged((int) found[1], (int) found[2], (int) found[3]));
        }
        return many;
    }

    public int mile(int speed, int wind) {
        argument(in(speed, 0, 999) && in(wind, -99, 99));
        if (s.mile.size() == 6) {
            return -1;
        }
        s.mile.add(speed + wind / 10);
        return s.mile.size();
    }

    public int mean(boolean tide) {
        if (s.mile.size() < 2) {
            return Integer.MIN_VALUE;
        }
        List<Integer> left = new ArrayList<>(s.mile);
        while (left.size() > 1) {
            List<Integer> next = new ArrayList<>();
            for (int i = 0; i + 1 < left.size(); i++) {
                next.add(tide ? left.get(i) - left.get(i + 1) : left.get(i) + left.get(i + 1));
            }
            left = next;
        }
        return left.get(0);
    }

    public int anew() {
        int had = s.mile.size();
        s.mile.clear();
        return had;
    }

    public int odds(int need, int engine) {
        argument(in(need, 0, BILLION) && in(engine, 0, BILLION));
        return (int) usual().stream().filter(r -> (long) need * r / 1000 <= engine).count();
    }

    public int price(int need, int engine, int bonus, int malus) {
        argument(in(bonus, 0, 9999) && in(malus, 0, 9999));
        int kept = odds(need, engine);
        return kept * bonus - (usual().size() - kept) * malus;
    }

    public int foul(int months, int hundredths) {
        argument(in(months, 0, 999) && in(hundredths, 0, 999));
        if (s.fouling.size() == 8) {
            return -1;
        }
        if (!s.fouling.isEmpty() && s.fouling.get(s.fouling.size() - 1)[0] >= months) {
            return -2;
        }
        s.fouling.add(new int[] {months, hundredths});
        return s.fouling.size();
    }

    public int grown(int months) {
        argument(in(months, 0, 999));
        int[] before = null;
        for (int[] row : s.fouling) {
            if (row[0] > months) {
                return before == null ? row[1]
                        : before[1] + (row[1] - before[1]) * (months - before[0]) / (row[0] - before[0]);
            }
            before = row;
        }
        return before == null ? 0 : before[1];
    }

    public int image() {
        if (images.size() == 3) {
            return -1;
        }
        images.add(s.copy());
        return images.size();
    }

    public int restore() {
        if (images.isEmpty()) {
            return -1;
        }
        s = images.remove(images.size() - 1);
        return images.size();
    }

    public int count(int what) {
        int[] all = {s.hulls.size(), s.tanks.size(), laws.size(), ways.size(), s.runs.size(), s.ratios.size(),
            s.mile.size(), s.fouling.size(), images.size(), tape.length(), s.seed};
        return in(what, 0, 10) ? all[what] : -1;
    }
}
