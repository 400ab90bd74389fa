import java.io.File;
import java.io.IOException;
import java.lang.reflect.Method;
import java.lang.reflect.Modifier;
import java.nio.charset.StandardCharsets;
import java.nio.file.Files;
import java.nio.file.Path;
import java.util.ArrayList;
import java.util.List;
import java.util.TreeSet;

/** README.md tells true: its example compiles and answers as told there, each call and each test is named in it. */
public final class ReadmeTest {
    private static int wrong = 0;

    private static void check(boolean right, String what) {
        if (!right) {
            wrong++;
            System.out.println("README.md: " + what);
        }
    }

    public static void main(String[] args) throws IOException, InterruptedException {
        String readme = Files.readString(Path.of("README.md"));
        String told = block(readme, "text");
        String got = answersOf(block(readme, "java"));
        check(told.equals(got), "the example answers\n" + got + "but is told to answer\n" + told);
        for (String call : face()) {
            check(readme.contains("`" + call + "`"), "no word of " + call);
        }
        for (String test : tests()) {
            check(readme.contains("`" + test + "`"), "no word of " + test);
        }
        System.out.println("ReadmeTest: " + wrong + " wrong");
        System.exit(wrong == 0 ? 0 : 1);
    }

    private static String block(String readme, String language) {
        String opens = "```" + language + "\n";
        int from = readme.indexOf(opens);
        int to = readme.indexOf("```", from + opens.length());
        check(from >= 0 && to >= 0, "no block of " + language);
        return from >= 0 && to >= 0 ? readme.substring(from + opens.length(), to) : "";
    }

    private static String answersOf(String example) throws IOException, InterruptedException {
        Path dir = Files.createTempDirectory("readme");
        Path source = dir.resolve("Example.java");
        String classes = System.getProperty("java.class.path") + File.pathSeparator + dir;
        try {
            Files.writeString(source, example);
            return outputOf("javac", "-cp", classes, "-d", dir.toString(), source.toString())
                + outputOf("java", "-cp", classes, "Example");
        } finally {
            Files.deleteIfExists(source);
            Files.deleteIfExists(dir.resolve("Example.class"));
            Files.delete(dir);
        }
    }

    private static String outputOf(String... command) throws IOException, InterruptedException {
        Process process = new ProcessBuilder(command).redirectErrorStream(true).start();
        String output = new String(process.getInputStream().readAllBytes(), StandardCharsets.UTF_8);
        check(process.waitFor() == 0, "the example fails under " + command[0]);
        return output.replace(System.lineSeparator(), "\n");
    }

    private static TreeSet<String> face() {
        TreeSet<String> names = new TreeSet<>();
        for (Method m : NapkinDeeds.class.getDeclaredMethods()) {
            if (Modifier.isPublic(m.getModifiers())) {
                names.add(m.getName());
            }
        }
        return names;
    }

    private static List<String> tests() throws IOException {
        List<String> names = new ArrayList<>();
        try (var files = Files.newDirectoryStream(Path.of("src/test/java"), "*.java")) {
            for (Path file : files) {
                names.add(file.getFileName().toString().replace(".java", ""));
            }
        }
        return names;
    }
}
