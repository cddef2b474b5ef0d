import java.nio.charset.StandardCharsets;
import java.util.concurrent.Callable;

/** Counts the calls whose answers are not the ones that are due. */
final class Checks {
    static final Class<? extends Exception> STATE = IllegalStateException.class;
    static final Class<? extends Exception> ARGUMENT = IllegalArgumentException.class;
    static final Class<? extends Exception> INDEX = IndexOutOfBoundsException.class;
    static final Class<? extends Exception> ELEMENT = java.util.NoSuchElementException.class;

    private int wrong;
    private int all;

    void due(String call, long want, long got) {
        all++;
        if (got != want) {
            wrong++;
            System.out.println(call + " answered " + got + ", due is " + want);
        }
    }

    void throwsDue(String call, Class<? extends Exception> want, Callable<? extends Number> made) {
        all++;
        String got;
        try {
            got = "answered " + made.call();
        } catch (Exception e) {
            if (e.getClass() == want) {
                return;
            }
            got = "threw " + e;
        }
        wrong++;
        System.out.println(call + " " + got + ", due is " + want.getName());
    }

    /** Feeds a text and makes it a LAW or a WAY: what law() answers. */
    static int text(TankHulls x, String text, boolean way) {
        feed(x, text);
        return x.law(text.length(), way);
    }

    static int feed(TankHulls x, String text) {
        byte[] bytes = text.getBytes(StandardCharsets.ISO_8859_1);
        int fed = x.count(9);
        for (int i = 0; i < bytes.length; i += 20) {
            int[] n = new int[5];
            for (int k = 0; k < 20; k++) {
                int b = i + k < bytes.length ? bytes[i + k] & 255 : 0;
                n[k / 4] = n[k / 4] << 8 | b;
            }
            fed = x.feed(n[0], n[1], n[2], n[3], n[4]);
        }
        return fed;
    }

    static int law(TankHulls x, String text) {
        return text(x, text, false);
    }

    static int way(TankHulls x, String text) {
        return text(x, text, true);
    }

    void finish() {
        System.out.println(all + " checks, " + wrong + " wrong");
        if (wrong != 0 || all == 0) {
            System.exit(1);
        }
    }
}
