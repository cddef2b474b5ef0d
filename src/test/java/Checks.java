import java.nio.charset.StandardCharsets;
import java.util.concurrent.Callable;
import java.util.function.Supplier;

/** Counts the calls whose answers are not the ones that are due. */
final class Checks {
    static final Class<? extends Exception> STATE = IllegalStateException.class;
    static final Class<? extends Exception> ARGUMENT = IllegalArgumentException.class;
    static final Class<? extends Exception> INDEX = IndexOutOfBoundsException.class;
    static final Class<? extends Exception> ELEMENT = java.util.NoSuchElementException.class;

    private int wrong;
    private int all;

    void due(String call, long want, long got) {
        all++;
        if (got != want) {
            wrong++;
            System.out.println(call + " answered " + got + ", due is " + want);
        }
    }

    void throwsDue(String call, Class<? extends Exception> want, Callable<? extends Number> made) {
        all++;
        String got;
        try {
            got = "answered " + made.call();
        } catch (Exception e) {
            if (e.getClass() == want) {
                return;
            }
            got = "threw " + e;
        }
        wrong++;
        System.out.println(call + " " + got + ", due is " + want.getName());
    }

    /** A call with one argument left open. */
    interface Call {
        Number on(TankHulls x, int value);
    }

    /** A call that throws as is due, and changes nothing that can be seen. */
    void refused(String call, Class<? extends Exception> want, TankHulls x, Callable<? extends Number> made) {
        String before = Rig.look(x);
        throwsDue(call, want, made);
        same("after " + call, before, Rig.look(x));
    }

    /** A call that answers NONE, and changes nothing that can be seen. */
    void none(String call, TankHulls x, Callable<? extends Number> made) {
        String before = Rig.look(x);
        answers(call, -1, made);
        same("after " + call, before, Rig.look(x));
    }

    void answers(String call, long want, Callable<? extends Number> made) {
        try {
            due(call, want, made.call().longValue());
        } catch (Exception e) {
            all++;
            wrong++;
            System.out.println(call + " threw " + e + ", due is " + want);
        }
    }

    /** From least to most an argument is taken; just outside, and far outside, it is refused. */
    void range(String argument, Class<? extends Exception> want, int least, int most, Call call) {
        range(argument, want, least, most, Rig::whole, call);
    }

    void range(String argument, Class<? extends Exception> want, int least, int most,
            Supplier<TankHulls> maker, Call call) {
        for (int value : new int[] {least, most}) {
            TankHulls x = maker.get();
            taken(argument + " " + value, () -> call.on(x, value));
        }
        for (int value : new int[] {least - 1, most + 1, Integer.MIN_VALUE, Integer.MAX_VALUE}) {
            TankHulls x = maker.get();
            refused(argument + " " + value, want, x, () -> call.on(x, value));
        }
    }

    /** A call that answers, whatever it is. */
    void taken(String call, Callable<? extends Number> made) {
        all++;
        try {
            made.call();
        } catch (Exception e) {
            wrong++;
            System.out.println(call + " threw " + e + ", due is an answer");
        }
    }

    void same(String what, String want, String got) {
        all++;
        if (!got.equals(want)) {
            wrong++;
            System.out.println(what + " there stands\n" + got + "due is\n" + want);
        }
    }

    /** Feeds a text and makes it a LAW or a WAY: what law() answers. */
    static int text(TankHulls x, String text, boolean way) {
        feed(x, text);
        return x.law(text.length(), way);
    }

    static int feed(TankHulls x, String text) {
        byte[] bytes = text.getBytes(StandardCharsets.ISO_8859_1);
        int fed = x.count(9);
        for (int i = 0; i < bytes.length; i += 20) {
            int[] n = new int[5];
            for (int k = 0; k < 20; k++) {
                int b = i + k < bytes.length ? bytes[i + k] & 255 : 0;
                n[k / 4] = n[k / 4] << 8 | b;
            }
            fed = x.feed(n[0], n[1], n[2], n[3], n[4]);
        }
        return fed;
    }

    static int law(TankHulls x, String text) {
        return text(x, text, false);
    }

    static int way(TankHulls x, String text) {
        return text(x, text, true);
    }

    void finish() {
        System.out.println(all + " checks, " + wrong + " wrong");
        if (wrong != 0 || all == 0) {
            System.exit(1);
        }
    }
}
