import java.io.IOException;
import java.lang.reflect.InvocationTargetException;
import java.lang.reflect.Method;
import java.nio.file.Files;
import java.nio.file.Path;
import java.util.Arrays;
import java.util.Comparator;
import java.util.Set;
import java.util.TreeSet;

/** Runs a test for each sentence of the document that names an edge, and looks that each promise has one. */
public final class EdgesTest {
    private static final Class<?>[] EDGES = {TextEdges.class, LyingEdges.class, FoldEdges.class, DeedEdges.class,
        OnEdges.class, StackEdges.class, GuestEdges.class, SeenEdges.class, TrayEdges.class};
    private static final int PROMISES = 49;

    private static int ran = 0;
    private static int wrong = 0;

    public static void main(String[] args) throws IOException, IllegalAccessException {
        String doc = oneLine(Files.readString(Path.of("../shared/DOC.md")));
        Set<Integer> promises = new TreeSet<>();
        for (Class<?> edges : EDGES) {
            Method[] tests = edges.getDeclaredMethods();
            Arrays.sort(tests, Comparator.comparing(Method::getName));
            for (Method test : tests) {
                Edges.Says says = test.getAnnotation(Edges.Says.class);
                if (says != null) {
                    promises.add(says.promise());
                    run(test, says, doc);
                }
            }
        }
        for (int promise = Edges.TERMS; promise <= PROMISES; promise++) {
            if (!promises.contains(promise)) {
                wrong++;
                System.out.println("promise " + promise + " has no test of an edge");
            }
        }
        System.out.println("EdgesTest: " + ran + " sentences, " + wrong + " wrong");
        System.exit(wrong == 0 ? 0 : 1);
    }

    private static void run(Method test, Edges.Says says, String doc) throws IllegalAccessException {
        ran++;
        String name = test.getDeclaringClass().getName() + "." + test.getName() + ", promise " + says.promise() + ": ";
        if (!section(doc, says.promise()).contains(oneLine(says.value()))) {
            wrong++;
            System.out.println(name + "the document does not say <" + says.value() + ">");
        }
        try {
            test.setAccessible(true);
            test.invoke(null);
        } catch (InvocationTargetException e) {
            wrong++;
            System.out.println(name + says.value() + "\n    " + e.getCause() + where(e.getCause(), test));
        }
    }

    private static String where(Throwable thrown, Method test) {
        for (StackTraceElement at : thrown.getStackTrace()) {
            if (at.getMethodName().contains(test.getName())) {
                return " (line " + at.getLineNumber() + ")";
            }
        }
        return "";
    }

    private static String section(String doc, int promise) {
        if (promise == Edges.TERMS) {
            return doc.substring(0, doc.indexOf("## Promise 1:"));
        }
        int from = doc.indexOf("## Promise " + promise + ":");
        int to = doc.indexOf("## ", from + 3);
        return doc.substring(from, to);
    }

    private static String oneLine(String text) {
        return text.replaceAll("\\s+", " ");
    }
}
