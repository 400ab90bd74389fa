import java.io.IOException;
import java.lang.reflect.Field;
import java.lang.reflect.Method;
import java.lang.reflect.Modifier;
import java.nio.file.Files;
import java.nio.file.Path;
import java.util.HashSet;
import java.util.Set;
import java.util.TreeSet;
import java.util.regex.Matcher;
import java.util.regex.Pattern;

/** What of ../shared/LANGUAGE.md can be looked at without reading the program. */
public final class LanguageTest {
    private static final String FACE = "feed napkin fault cell high layer above beneath crease folded worth holds likes"
        + " fold unfold shake amend undo judge perform evening rows looks soonest holding best reads step stands stacks"
        + " stack simple made madeBy patterns refuse fairest better keenest seen sure look tray write copy image restore"
        + " count";
    /* Words that the rules leave no place for, each with its rule. */
    private static final String[][] FORBIDDEN = {
        {"\\btry\\b|\\bcatch\\b|\\bfinally\\b|\\bassert\\b|\\bsynchronized\\b", "6"},
        {"->|::", "2"},
        {"\\bstatic\\s*\\{", "5"},
        {"Exact\\b", "4"},
        {"\\b(System\\.(?!arraycopy)|Thread|Random|File|Objects|Stream|Map|Set|Collections)", "4"},
        {"\\b(Integer|Long)\\.[A-Z]", "4"},
        {"\\[\\]\\s*\\[\\]\\s*\\[\\]", "3"},
        {"\"\\s*\\+|\\+\\s*\"", "10"},
        {"^import (?!java\\.util\\.(Arrays|NoSuchElementException);)", "4"}};

    private static int wrong = 0;

    private static void check(boolean right, String what) {
        if (!right) {
            wrong++;
            System.out.println("LANGUAGE.md: " + what);
        }
    }

    public static void main(String[] args) throws IOException {
        String source = Files.readString(Path.of("src/main/java/NapkinDeeds.java"));
        check(source.chars().allMatch(c -> c == '\n' || c >= 32 && c < 127), "plain signs");
        String code = source.replaceAll("(?s)/\\*.*?\\*/", "").replaceAll("//[^\n]*", "");
        String bare = code.replaceAll("\"[^\"\n]*\"", "\"\"");
        for (String[] words : FORBIDDEN) {
            Matcher m = Pattern.compile(words[0], Pattern.MULTILINE).matcher(bare);
            check(!m.find(), "rule " + words[1] + ": " + words[0]);
        }
        face();
        classes();
        methods(code);
        System.out.println("LanguageTest: " + wrong + " wrong");
        System.exit(wrong == 0 ? 0 : 1);
    }

    private static void face() {
        Set<String> open = new TreeSet<>();
        Set<String> closed = new HashSet<>();
        for (Method m : NapkinDeeds.class.getDeclaredMethods()) {
            if (!m.isSynthetic()) {
                check(Modifier.isPublic(m.getModifiers()) || Modifier.isPrivate(m.getModifiers()), "rule 1: " + m);
                (Modifier.isPublic(m.getModifiers()) ? open : closed).add(m.getName());
            }
        }
        check(open.equals(new TreeSet<>(Set.of(FACE.split(" ")))), "rule 1: the face is " + open);
        closed.retainAll(open);
        check(closed.isEmpty(), "rule 1: private names of the face: " + closed);
        for (Field f : NapkinDeeds.class.getDeclaredFields()) {
            check(Modifier.isPrivate(f.getModifiers()) || f.getName().equals("NONE"), "rule 1: " + f);
        }
    }

    private static void classes() {
        Class<?>[] inside = NapkinDeeds.class.getDeclaredClasses();
        check(inside.length < 12, "rule 11: " + inside.length + " classes inside");
        fields(NapkinDeeds.class);
        for (Class<?> c : inside) {
            check(Modifier.isStatic(c.getModifiers()) && !Modifier.isPublic(c.getModifiers()), "rule 1: " + c);
            fields(c);
        }
    }

    private static void fields(Class<?> c) {
        for (Method m : c.getDeclaredMethods()) {
            check(m.getParameterCount() <= 7, "rule 11: parameters of " + m);
        }
        int fields = 0;
        for (Field f : c.getDeclaredFields()) {
            if (!Modifier.isStatic(f.getModifiers())) {
                fields++;
            } else {
                check(Modifier.isFinal(f.getModifiers()), "rule 5: " + f);
            }
        }
        check(fields <= 20, "rule 11: " + fields + " fields in " + c);
    }

    private static void methods(String code) {
        int from = 0;
        String[] lines = code.split("\n");
        for (int i = 0; i < lines.length; i++) {
            if (lines[i].matches(" {4,8}\\S.*\\{")) {
                from = i;
            }
            boolean ends = lines[i].matches(" {4,8}\\}");
            check(!ends || i - from <= 60, "rule 11: " + (i - from) + " lines in " + lines[from].trim());
        }
    }
}
