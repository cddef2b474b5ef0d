import java.io.IOException;
import java.lang.reflect.InvocationTargetException;
import java.lang.reflect.Method;
import java.nio.file.Files;
import java.nio.file.Path;
import java.util.regex.Matcher;
import java.util.regex.Pattern;

/** README.md: the calls of its block of Java answer what stands behind them, and its table names every call. */
public final class ReadmeTest {
    private static final Checks c = new Checks();
    private static final Pattern CALL = Pattern.compile("x\\.(\\w+)\\((.*)\\);\\s*// (-?\\d+):.*");

    public static void main(String[] args) throws IOException {
        String text = Files.readString(Path.of("README.md"));
        int start = text.indexOf("```java\n");
        int end = text.indexOf("```\n", start + 8);
        c.due("a block of Java", 1, start >= 0 && end > start ? 1 : 0);
        if (start >= 0 && end > start) {
            block(text.substring(start + 8, end).split("\n"));
        }
        for (Method m : TankHulls.class.getDeclaredMethods()) {
            if (java.lang.reflect.Modifier.isPublic(m.getModifiers())) {
                c.due("names " + m.getName(), 1, text.contains("`" + m.getName() + "`") ? 1 : 0);
            }
        }
        c.finish();
    }

    private static void block(String[] lines) {
        TankHulls x = new TankHulls();
        c.same("the first line", "TankHulls x = new TankHulls();", lines[0]);
        for (int i = 1; i < lines.length; i++) {
            Matcher call = CALL.matcher(lines[i]);
            if (call.matches()) {
                c.due(lines[i], Long.parseLong(call.group(3)), answer(x, call.group(1), call.group(2).split(", ")));
            } else {
                c.same("a call with its answer", "x.call(..);  // answer: ..", lines[i]);
            }
        }
    }

    private static long answer(TankHulls x, String name, String[] written) {
        for (Method m : TankHulls.class.getMethods()) {
            if (m.getName().equals(name) && m.getParameterCount() == written.length) {
                Object[] arguments = new Object[written.length];
                for (int i = 0; i < written.length; i++) {
                    boolean yesOrNo = m.getParameterTypes()[i] == boolean.class;
                    arguments[i] = yesOrNo ? (Object) Boolean.valueOf(written[i]) : (Object) Integer.decode(written[i]);
                }
                try {
                    return ((Number) m.invoke(x, arguments)).longValue();
                } catch (InvocationTargetException | IllegalAccessException e) {
                    throw new IllegalStateException(name, e);
                }
            }
        }
        throw new IllegalStateException("no such call: " + name);
    }
}
