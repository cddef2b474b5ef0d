import java.util.Random;

/** Makes random texts of LAWS and WAYS of 400 bytes at most, some of them with a sign changed. */
final class TextMaker {
    private static final String[] LAWS = {"skin", "wave", "eddy", "sides", "foul"};
    private static final String[] WAYS = {"off", "add", "more"};
    private static final String[] NAMES = {"length", "speed", "wet", "volume", "beam", "draft", "fn", "wire", "side",
        "months"};
    private static final String SIGNS = "()[],;+-*/<>= 059abcdefilmnorstw~";

    private final Random random;
    private final StringBuilder out = new StringBuilder();

    TextMaker(Random random) {
        this.random = random;
    }

    String text(boolean way) {
        int clauses = random.nextInt(8) == 0 ? random.nextInt(19) : 1 + random.nextInt(5);
        for (int i = 0; i < clauses; i++) {
            clause(way);
        }
        if (random.nextInt(4) == 0 && out.length() > 0) {
            spoil();
        }
        return out.substring(0, Math.min(400, out.length()));
    }

    private void spoil() {
        int place = random.nextInt(out.length());
        char sign = SIGNS.charAt(random.nextInt(SIGNS.length()));
        switch (random.nextInt(4)) {
            case 0: out.insert(place, sign); break;
            case 1: out.deleteCharAt(place); break;
            case 2: out.setLength(place); break;
            default: out.setCharAt(place, sign); break;
        }
    }

    private void clause(boolean way) {
        put(way ? one(WAYS) : one(LAWS));
        sum(random.nextInt(20) == 0 ? 7 : 2);
        if (random.nextInt(3) == 0) {
            put("if");
            condition(random.nextInt(20) == 0 ? 7 : 2);
        }
        put(";");
    }

    private String one(String[] list) {
        return list[random.nextInt(list.length)];
    }

    /** Letters beside letters and digits beside digits need a blank between them. */
    private void put(String token) {
        boolean joins = out.length() > 0 && Character.isLetterOrDigit(out.charAt(out.length() - 1))
                && Character.isLetterOrDigit(token.charAt(0));
        if (joins || random.nextInt(10) == 0) {
            out.append(" ");
        }
        out.append(token);
    }

    private void sum(int depth) {
        product(depth);
        for (int i = random.nextInt(3); i > 1; i--) {
            put(random.nextBoolean() ? "+" : "-");
            product(depth);
        }
    }

    private void product(int depth) {
        unit(depth);
        for (int i = random.nextInt(3); i > 1; i--) {
            put(random.nextBoolean() ? "*" : "/");
            unit(depth);
        }
    }

    private void unit(int depth) {
        int kind = random.nextInt(depth > 2 ? 2 : 7);
        if (depth > 0 && kind < 2) {
            String[] calls = {"", "root", "least", "most"};
            String call = one(calls);
            if (!call.isEmpty()) {
                put(call);
            }
            put("(");
            sum(depth - 1);
            if (call.endsWith("st")) {
                put(",");
                sum(0);
            }
            put(")");
        } else if (kind < 5) {
            put(one(NAMES));
        } else {
            put(Integer.toString(random.nextInt(30) == 0 ? 9990 + random.nextInt(20) : random.nextInt(120)));
        }
    }

    private void condition(int depth) {
        int kind = random.nextInt(depth > 2 ? 2 : 6);
        if (depth > 0 && kind == 0) {
            put("not");
            condition(depth - 1);
        } else if (depth > 0 && kind == 1) {
            put("[");
            condition(depth - 1);
            put("]");
        } else {
            sum(depth > 2 ? 1 : 0);
            put(one(new String[] {"<", ">", "="}));
            sum(0);
        }
        if (random.nextInt(4) == 0) {
            put(random.nextBoolean() ? "and" : "or");
            condition(0);
        }
    }
}
