import java.io.IOException;
import java.lang.reflect.Constructor;
import java.lang.reflect.Field;
import java.lang.reflect.Method;
import java.lang.reflect.Modifier;
import java.nio.file.Files;
import java.nio.file.Path;
import java.util.Arrays;
import java.util.Set;
import java.util.TreeSet;
import java.util.stream.Collectors;

/** The public face is the document's, line by line, and LANGUAGE.md's rules 1, 2, 5 and 11 where they can be counted. */
public final class FaceTest {
    private static final Checks c = new Checks();

    public static void main(String[] args) throws IOException {
        c.same("the face", linesOf(faceOfDocument()), linesOf(faceOfClass()));
        c.due("public", 1, Modifier.isPublic(TankHulls.class.getModifiers()) ? 1 : 0);
        c.due("final", 1, Modifier.isFinal(TankHulls.class.getModifiers()) ? 1 : 0);
        hiddenMembers();
        classesInside();
        c.finish();
    }

    private static String linesOf(Set<String> lines) {
        return lines.stream().map(line -> line + "\n").collect(Collectors.joining());
    }

    /** The public lines of the document's first block of Java, without the names of parameters. */
    private static Set<String> faceOfDocument() throws IOException {
        String text = Files.readString(Path.of("../shared/DOC.md"));
        int start = text.indexOf("```java");
        Set<String> face = new TreeSet<>();
        for (String line : text.substring(start, text.indexOf("\n}", start)).split("\n")) {
            if (line.startsWith("    public")) {
                face.add(line.strip().replaceAll("\\b(int|long|boolean) \\w+(?=[,)])", "$1"));
            }
        }
        return face;
    }

    private static Set<String> faceOfClass() {
        Set<String> face = new TreeSet<>();
        for (Field f : TankHulls.class.getFields()) {
            face.add(Modifier.toString(f.getModifiers()) + " " + f.getType() + " " + f.getName() + " = "
                    + TankHulls.NONE + ";");
        }
        for (Constructor<?> made : TankHulls.class.getConstructors()) {
            face.add("public TankHulls(" + names(made.getParameterTypes()) + ");");
        }
        for (Method m : TankHulls.class.getDeclaredMethods()) {
            if (Modifier.isPublic(m.getModifiers())) {
                String thrown = names(m.getExceptionTypes());
                face.add(Modifier.toString(m.getModifiers()) + " " + m.getReturnType() + " " + m.getName() + "("
                        + names(m.getParameterTypes()) + ")" + (thrown.isEmpty() ? "" : " throws " + thrown) + ";");
            }
        }
        return face;
    }

    private static String names(Class<?>[] types) {
        return Arrays.stream(types).map(Class::getSimpleName).collect(Collectors.joining(", "));
    }

    /** Rule 1: what is not of the face is private, and bears no name of the face. */
    private static void hiddenMembers() {
        Set<String> names = new TreeSet<>();
        for (Method m : TankHulls.class.getDeclaredMethods()) {
            if (Modifier.isPublic(m.getModifiers())) {
                names.add(m.getName());
            }
        }
        for (Method m : TankHulls.class.getDeclaredMethods()) {
            boolean open = Modifier.isPublic(m.getModifiers());
            c.due(m.getName() + " is public or private", 1, open || Modifier.isPrivate(m.getModifiers()) ? 1 : 0);
            c.due(m.getName() + " is named as one of the face", open ? 1 : 0, names.contains(m.getName()) ? 1 : 0);
        }
        for (Field f : TankHulls.class.getDeclaredFields()) {
            boolean open = f.getName().equals("NONE");
            c.due(f.getName() + " is private", open ? 0 : 1, Modifier.isPrivate(f.getModifiers()) ? 1 : 0);
        }
    }

    /** Rules 2, 5 and 11, of the class and of those inside it. */
    private static void classesInside() {
        Class<?>[] inside = TankHulls.class.getDeclaredClasses();
        c.due("twelve classes at most", 1, inside.length + 1 <= 12 ? 1 : 0);
        countMembers(TankHulls.class);
        for (Class<?> one : inside) {
            int modifiers = one.getModifiers();
            c.due(one + " is static", 1, Modifier.isStatic(modifiers) ? 1 : 0);
            c.due(one + " is hidden", 0, Modifier.isPublic(modifiers) || Modifier.isProtected(modifiers) ? 1 : 0);
            countMembers(one);
        }
    }

    private static void countMembers(Class<?> one) {
        int fields = 0;
        for (Field f : one.getDeclaredFields()) {
            boolean fixed = Modifier.isStatic(f.getModifiers());
            fields += fixed ? 0 : 1;
            c.due(f + " is final, if it is static", 1, !fixed || Modifier.isFinal(f.getModifiers()) ? 1 : 0);
        }
        c.due(one + " has twenty fields at most", 1, fields <= 20 ? 1 : 0);
        for (Method m : one.getDeclaredMethods()) {
            c.due(m + " takes seven at most", 1, m.getParameterCount() <= 7 ? 1 : 0);
        }
    }
}
