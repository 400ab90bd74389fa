import java.io.IOException;
import java.lang.reflect.Constructor;
import java.lang.reflect.Field;
import java.lang.reflect.Method;
import java.lang.reflect.Modifier;
import java.nio.file.Files;
import java.nio.file.Path;
import java.util.Set;
import java.util.TreeSet;
import java.util.regex.Matcher;
import java.util.regex.Pattern;

/** The class has the face that the document writes out, and nothing beside it: names, kinds, throws, constants. */
public final class FaceTest {
    public static void main(String[] args) throws IOException, IllegalAccessException {
        Set<String> due = told(Files.readString(Path.of("../shared/DOC.md")));
        Set<String> got = had();
        Set<String> missing = new TreeSet<>(due);
        missing.removeAll(got);
        Set<String> beyond = new TreeSet<>(got);
        beyond.removeAll(due);
        missing.forEach(line -> System.out.println("missing: " + line));
        beyond.forEach(line -> System.out.println("not in the document: " + line));
        boolean right = missing.isEmpty() && beyond.isEmpty() && due.size() == 50;
        System.out.println("FaceTest: " + due.size() + " lines, " + (right ? "all are there" : "not all are there"));
        System.exit(right ? 0 : 1);
    }

    private static Set<String> told(String doc) {
        int from = doc.indexOf("public final class NapkinDeeds {");
        String face = doc.substring(doc.indexOf('\n', from), doc.indexOf("\n}", from));
        Set<String> lines = new TreeSet<>();
        Matcher line = Pattern.compile("public ([^;]*);").matcher(face);
        while (line.find()) {
            lines.add(line.group(1).replaceAll("\\s+", " ").replaceAll("(int|long) \\w+(?=[,)])", "$1"));
        }
        return lines;
    }

    private static Set<String> had() throws IllegalAccessException {
        Set<String> lines = new TreeSet<>();
        for (Field f : NapkinDeeds.class.getDeclaredFields()) {
            if (!Modifier.isPrivate(f.getModifiers())) {
                lines.add(Modifier.toString(f.getModifiers()).replace("public ", "") + " " + f.getType() + " " + f.getName()
                    + " = " + f.getInt(null));
            }
        }
        for (Constructor<?> c : NapkinDeeds.class.getDeclaredConstructors()) {
            lines.add(c.getName() + "(" + names(c.getParameterTypes(), ", ") + ")");
        }
        for (Method m : NapkinDeeds.class.getDeclaredMethods()) {
            if (!Modifier.isPrivate(m.getModifiers())) {
                String thrown = names(m.getExceptionTypes(), ", ");
                lines.add(m.getReturnType() + " " + m.getName() + "(" + names(m.getParameterTypes(), ", ") + ")"
                    + (thrown.isEmpty() ? "" : " throws " + thrown));
            }
        }
        return lines;
    }

    private static String names(Class<?>[] classes, String between) {
        StringBuilder names = new StringBuilder();
        for (Class<?> c : classes) {
            names.append(names.length() > 0 ? between : "").append(c.getSimpleName());
        }
        return names.toString();
    }
}
