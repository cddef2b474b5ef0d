import java.lang.reflect.InvocationTargetException;
import java.lang.reflect.Method;
import java.lang.reflect.Modifier;
import java.util.ArrayList;
import java.util.Arrays;
import java.util.Comparator;
import java.util.List;
import java.util.Random;

/** All promises: long random runs of calls, right and wrong ones, answered as the Oracle answers them. */
public final class RandomRunsTest {
    private static final int RUNS = 120;
    private static final int CALLS = 512;
    private static final int TEXT_RUNS = 600;

    private final Random random;
    private final TankHulls x = new TankHulls();
    private final Oracle y = new Oracle();
    private final List<String> said = new ArrayList<>();

    private RandomRunsTest(long seed) {
        random = new Random(seed);
    }

    public static void main(String[] args) {
        int wrong = 0;
        for (int run = 0; run < RUNS && wrong < 5; run++) {
            wrong += new RandomRunsTest(run).isAsDue(run) ? 0 : 1;
        }
        for (int run = 0; run < TEXT_RUNS && wrong < 5; run++) {
            wrong += new RandomRunsTest(RUNS + run).areTextsAsDue(run) ? 0 : 1;
        }
        System.out.println(RUNS + " runs of " + CALLS + " calls, " + TEXT_RUNS + " of texts, " + wrong + " wrong");
        if (wrong != 0) {
            System.exit(1);
        }
    }

    private boolean isAsDue(int run) {
        List<Method> face = new ArrayList<>();
        for (Method m : TankHulls.class.getDeclaredMethods()) {
            if (Modifier.isPublic(m.getModifiers())) {
                face.add(m);
            }
        }
        face.sort(Comparator.comparing(Method::getName));
        boolean begun = run % 5 == 0 || isBeginningAsDue();
        while (said.size() < CALLS) {
            boolean same = begun;
            if (random.nextInt(40) == 0) {
                boolean way = random.nextInt(3) == 0;
                same &= isTextAsDue(new TextMaker(random).text(way), way);
            } else {
                Method m = face.get(random.nextInt(face.size()));
                // images and hulls that come and go too often would hide the rest
                boolean rare = List.of("restore", "feed", "law", "anew").contains(m.getName());
                same &= rare && random.nextInt(4) != 0 || isCallAsDue(m.getName(), arguments(m));
            }
            if (!same) {
                tellLastCalls("run " + run);
                return false;
            }
        }
        return true;
    }

    private void tellLastCalls(String of) {
        System.out.println(of + ", the last calls:");
        said.subList(Math.max(0, said.size() - 12), said.size()).forEach(System.out::println);
    }

    /** Texts till both shelves are full (or many were faulty), then all that they tell. */
    private boolean areTextsAsDue(int run) {
        boolean same = isCallAsDue("hull", new Object[] {10 + random.nextInt(391), 2 + random.nextInt(11)})
                && isCallAsDue("tank", new Object[] {1 + random.nextInt(60), 1 + random.nextInt(60)});
        for (int i = 0; same && i < 9; i++) {
            boolean way = i % 2 == 1;
            same = isTextAsDue(new TextMaker(random).text(way), way);
        }
        for (int i = 0; same && i < 3; i++) {
            same = isCallAsDue("set", new Object[] {0, 1 + random.nextInt(40), 1 + random.nextInt(99), i % 2 - 1})
                    && isCallAsDue("trim", new Object[] {random.nextBoolean(), random.nextInt(100)})
                    && isAllToldAsDue();
        }
        if (!same) {
            tellLastCalls("texts " + run);
        }
        return same;
    }

    private boolean isAllToldAsDue() {
        boolean same = true;
        for (int what = 0; what < 5; what++) {
            for (int law = 0; law < 4; law++) {
                same = same && isCallAsDue("pull", new Object[] {law, what});
            }
        }
        for (int what = 0; what < 4; what++) {
            for (int way = 0; way < 3; way++) {
                same = same && isCallAsDue("need", new Object[] {way, random.nextInt(1000000001), what});
            }
        }
        return same;
    }

    /** LAWS and WAYS that answer to every name, and hulls and tanks that they differ on. */
    private static final String[] LAWS = {
        "skin wet*speed*(1+wire);wave fn*fn/7+volume/50 if fn>20;eddy beam*draft+beam;sides side*2;foul months*3;",
        "skin root(wet)*speed+most(0,3000-volume);eddy least(beam,draft*2)*9+side;foul months;",
        "eddy 9000-volume/100+beam*3;wave speed*speed;skin 5 if wire=1;eddy 77*draft if not length>40;",
        "eddy beam*100+draft*77+side*5;skin volume/30*speed;sides side+wire*9;",
        "wave 700+draft*100-beam*3;wave 10*length if [length>5 and length<20] or months=7;",
        "skin 9000*9000*speed;eddy 9000*9000*beam;foul 9999*months;sides 100*side;",
    };
    private static final String[] WAYS = {
        "off wet*speed/2;add wet*speed;more 10;", "off side+wire*20+beam;add volume+months;more draft;",
        "add 3000*speed if speed>40;off 50;more 9000 if speed=99;", "",
    };

    private boolean isBeginningAsDue() {
        boolean same = true;
        for (int i = 1 + random.nextInt(4); i > 0; i--) {
            int length = 10 + random.nextInt(391);
            same &= isCallAsDue("hull", new Object[] {length, 2 + random.nextInt(11)});
            for (int k = 0; k < 6; k++) {
                same &= isCallAsDue("station", new Object[] {random.nextInt(2), k, random.nextInt(61),
                    random.nextInt(61)});
            }
            same &= isCallAsDue("tank", new Object[] {1 + random.nextInt(60), 1 + random.nextInt(60)});
        }
        for (int i = 0; i < 3; i++) {
            same &= isTextAsDue(LAWS[random.nextInt(LAWS.length)], false);
        }
        for (int i = 0; i < 2; i++) {
            same &= isTextAsDue(WAYS[random.nextInt(WAYS.length)], true);
        }
        return same;
    }

    private boolean isCallAsDue(String name, Object[] arguments) {
        String got = answer(x, name, arguments);
        String want = answer(y, name, arguments);
        said.add(name + Arrays.toString(arguments) + " answered " + got + ", due is " + want);
        return got.equals(want);
    }

    private static String answer(Object object, String name, Object[] arguments) {
        for (Method m : object.getClass().getDeclaredMethods()) {
            if (m.getName().equals(name) && Modifier.isPublic(m.getModifiers())) {
                try {
                    m.setAccessible(true);
                    return m.invoke(object, arguments).toString();
                } catch (InvocationTargetException e) {
                    return e.getCause().getClass().getName();
                } catch (IllegalAccessException e) {
                    return e.toString();
                }
            }
        }
        return "no such call";
    }

    private Object[] arguments(Method m) {
        Object[] made = new Object[m.getParameterCount()];
        for (int i = 0; i < made.length; i++) {
            made[i] = m.getParameterTypes()[i] == boolean.class ? (Object) random.nextBoolean()
                    : (Object) argument(m.getName(), i);
        }
        return made;
    }

    /** Mostly within the document's ranges: their bounds a call, by place, the last one for all behind it. */
    private static final String[] RANGES = {
        "hull 10 400 2 12", "station 0 3 0 8 0 60", "model 0 3 1 40 0 5", "tank 1 30", "law 0 20",
        "set 0 3 1 40 1 99 -1 2", "trim 0 0 0 99", "name 0 9", "pull 0 3 0 4", "need 0 2 0 1000000000 0 3",
        "error 0 3 0 2 1 99 1 40", "size 0 3 0 2 1 99 0 9999", "sides 0 3", "widest 0 3 0 99",
        "run 0 1000000", "tow 0 3 0 50", "ran 0 60 0 6", "fits 90 99", "telling 90 99",
        "earlier 1000 1200 1000 1200", "ratio -1 20", "strange 0 300", "span 0 1000000000",
        "better 0 3 -1 2", "lines 0 3 0 20", "mile 0 999 -99 99", "odds 0 1000 0 1000",
        "price 0 1000 0 1000 0 9999", "foul 0 999", "grown 0 999", "count -1 11", "seed -9 9", "feed 0 9",
    };

    private int argument(String name, int place) {
        if (random.nextInt(40) == 0) {
            int[] wild = {-2147483648, 2147483647, -1, -2, 0, 1, 6, 12, 13, 40, 41, 61, 99, 100, 200, 201, 400,
                401, 999, 1000, 9999, 10000, 1000000000, 1000000001, 65536};
            return wild[random.nextInt(wild.length)];
        }
        for (String range : RANGES) {
            String[] parts = range.split(" ");
            if (parts[0].equals(name)) {
                int at = Math.min(1 + 2 * place, parts.length - 2);
                int least = Integer.parseInt(parts[at]);
                int most = Integer.parseInt(parts[at + 1]);
                // few different ones, so that calls meet what others left
                return random.nextInt(3) == 0 ? least + Math.min(random.nextInt(3), most - least)
                        : least + random.nextInt(most - least + 1);
            }
        }
        return random.nextInt(10);
    }

    private boolean isTextAsDue(String text, boolean way) {
        byte[] bytes = Arrays.copyOf(text.getBytes(java.nio.charset.StandardCharsets.ISO_8859_1), 400);
        // what stands on the tape is taken away first, by a fault: an empty text would fill a place
        boolean same = x.count(9) == 0 || isCallAsDue("law", new Object[] {1, way});
        for (int i = 0; same && i < text.length(); i += 20) {
            Object[] five = new Object[5];
            for (int k = 0; k < 5; k++) {
                five[k] = java.nio.ByteBuffer.wrap(bytes, i + 4 * k, 4).getInt();
            }
            same = isCallAsDue("feed", five);
        }
        return same && isCallAsDue("law", new Object[] {text.length(), way})
                && isCallAsDue("fault", new Object[0]);
    }
}
