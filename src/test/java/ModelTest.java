import java.util.ArrayList;
import java.util.Arrays;
import java.util.Collections;
import java.util.HashMap;
import java.util.HashSet;
import java.util.List;
import java.util.Map;
import java.util.NoSuchElementException;
import java.util.Random;
import java.util.Set;
import java.util.TreeMap;

/**
 * Drawn runs of calls, each answered by NapkinDeeds and by a second model of the document that goes through
 * every row of folds one by one and keeps everything as lists.
 */
public final class ModelTest {
    private static final String[] CALLS = {
        "feed", "napkin", "fault", "cell", "high", "layer", "above", "beneath", "crease", "folded", "worth",
        "holds", "likes", "fold", "unfold", "shake", "amend", "undo", "judge", "perform", "evening", "rows",
        "looks", "soonest", "holding", "best", "reads", "step", "stands", "stacks", "stack", "simple", "made",
        "madeBy", "patterns", "refuse", "fairest", "better", "keenest", "seen", "sure", "look", "tray", "write",
        "copy", "image", "restore", "count"};

    private static final Map<String, Integer> answered = new HashMap<>();

    public static void main(String[] args) {
        int runs = args.length > 0 ? Integer.parseInt(args[0]) : 260;
        for (int run = 0; run < runs; run++) {
            if (!new Run(run).agrees()) {
                System.exit(1);
            }
        }
        for (String call : CALLS) {
            if (answered.getOrDefault(call, 0) == 0) {
                System.out.println("never answered but by a throw: " + call);
                System.exit(1);
            }
        }
        System.out.println("ModelTest: " + runs + " runs agree");
    }

    /** One run of calls on a new object. */
    private static final class Run {
        private final int number;
        private final Random random;
        private final NapkinDeeds real = new NapkinDeeds();
        private final Model model = new Model();
        private final List<String> told = new ArrayList<>();

        Run(int number) {
            this.number = number;
            this.random = new Random(1000003L * number + 7);
        }

        boolean agrees() {
            if (random.nextInt(6) == 0 && !calls(20)) {
                return false;
            }
            int texts = 1 + random.nextInt(3);
            for (int i = 0; i < texts; i++) {
                if (!tell(text()) || !calls(40 + random.nextInt(60))) {
                    return false;
                }
            }
            for (int i = 0; i < 12; i++) {
                if (!tell(broken(text()))) {
                    return false;
                }
            }
            return calls(10);
        }

        private boolean calls(int many) {
            for (int i = 0; i < many; i++) {
                if (!draw()) {
                    return false;
                }
            }
            return true;
        }

        private boolean tell(String text) {
            for (int i = 0; i < text.length(); i += 20) {
                long[] ints = new long[5];
                for (int k = 0; k < 20; k++) {
                    int c = i + k < text.length() ? text.charAt(i + k) : ' ';
                    ints[k / 4] = (int) (ints[k / 4] << 8 | c);
                }
                if (!same("feed", ints)) {
                    return false;
                }
            }
            told.add("text <" + text + ">");
            return same("napkin", Math.min(text.length(), model.tape.size()))
                && same("fault", 0) && same("fault", 1);
        }

        private boolean same(String call, long... a) {
            String expected = answer(model, call, a);
            String got = answer(real, call, a);
            told.add(call + Arrays.toString(a) + " = " + got);
            if (!expected.startsWith("throws")) {
                answered.merge(call, 1, Integer::sum);
            }
            if (expected.equals(got)) {
                return true;
            }
            for (String line : told) {
                System.out.println(line);
            }
            System.out.println("run " + number + ": due is " + expected);
            return false;
        }

        private int up(int from, int to) {
            return from + random.nextInt(to - from + 1);
        }

        /* Mostly within the bounds, now and then one beside them. */
        private int near(int from, int to) {
            return random.nextInt(12) == 0 ? (random.nextBoolean() ? from - 1 : to + 1) : up(from, Math.max(from, to));
        }

        private int what() {
            return random.nextInt(8) == 0 ? up(-1, 16) : random.nextInt(3) == 0 ? 0 : up(10, 14);
        }

        private int greatestWhat() {
            return random.nextInt(4) == 0 ? 1 : what();
        }

        private boolean draw() {
            int cells = model.state.fronts.size();
            int columns = model.lay().size();
            String call = CALLS[random.nextInt(CALLS.length)];
            switch (call) {
                case "feed": return random.nextInt(9) > 0 || same(call, 0x63656C6C, 0x20312062, 0x61636B20, 0x323B0A20, random.nextInt());
                case "napkin": return random.nextInt(30) > 0 || same(call, up(-1, model.tape.size() + 1));
                case "fault": return same(call, up(-1, 2));
                case "cell": return same(call, near(0, cells - 1), near(0, 4));
                case "high":
                case "above":
                case "beneath": return same(call, near(0, columns - 1));
                case "layer": return same(call, near(0, columns - 1), near(0, 5));
                case "crease": return same(call, near(0, cells - 2));
                case "folded": return same(call, near(0, 5));
                case "worth": case "holds": case "unfold": case "shake": case "step": case "stacks":
                case "simple": case "patterns": case "refuse": return same(call);
                case "likes": return same(call, near(0, model.state.wants.size() - 1));
                case "fold": return same(call, near(1, columns - 1), near(0, 3));
                case "amend": return same(call, near(0, cells - 1), near(0, 1), near(0, 99));
                case "undo": return same(call, near(1, Math.min(4, model.state.past.size())));
                case "judge": return fill(this::deed, up(0, 9)) && same(call, tray(), near(0, 3));
                case "perform": return fill(this::deed, up(0, 9)) && same(call, tray());
                case "evening": return same(call, random.nextInt(), near(1, 30));
                case "rows": case "looks": case "holding": case "better": case "keenest": return same(call, near(0, 5));
                case "soonest": return same(call, what());
                case "best": case "fairest": return same(call, near(0, 5), greatestWhat());
                case "reads": return fillSight() && same(call, tray(), what());
                case "stands": case "stack": return fillStack() && same(call, tray());
                case "made": return fillCreases() && same(call, tray());
                case "madeBy": return fillCreases() && same(call, tray(), near(0, 5));
                case "seen": case "sure": case "look": return fillSight() && same(call, tray(), near(0, 4));
                case "tray": return random.nextInt(4) > 0 || same(call, near(0, 3), near(0, 3), near(0, 30));
                case "write": return same(call, near(0, 3), near(0, 6), random.nextLong() >> random.nextInt(64));
                case "copy": return same(call, near(0, 3));
                case "image": return same(call, near(0, 2));
                case "restore": return random.nextInt(3) > 0 || same(call, near(0, 2));
                default: return same(call, up(-1, 11));
            }
        }

        /* The tray that was filled last, now and then another. */
        private int tray() {
            return random.nextInt(15) == 0 ? up(-1, 4) : 0;
        }

        private interface Numbers {
            long next();
        }

        private boolean fill(Numbers numbers, int many) {
            if (!same("tray", 0, up(1, 3), many)) {
                return false;
            }
            for (int i = 0; i < many; i++) {
                if (!same("write", 0, i, numbers.next())) {
                    return false;
                }
            }
            return true;
        }

        private long deed() {
            switch (random.nextInt(8)) {
                case 0: return 100;
                case 1: return random.nextInt(3) == 0 ? 200 : -1;
                case 2: return 1000 + up(0, 620);
                case 3: return 2000 + up(-20, 600);
                case 4: return random.nextInt(6) == 0 ? up(-3, 320) : -1;
                default: return 10L * up(1, 3) + near(0, 3);
            }
        }

        private boolean fillSight() {
            List<List<int[]>> lay = model.lay();
            for (int i = 0; i < 5 && lay.size() > 1 && random.nextInt(3) > 0; i++) {
                lay = Model.folded(lay, up(1, lay.size() - 1), up(0, 3));
            }
            if (random.nextInt(9) == 0 || lay.isEmpty()) {
                return fill(() -> near(-1, 99), near(1, 6));
            }
            List<Long> marks = new ArrayList<>();
            for (List<int[]> column : lay) {
                marks.add(random.nextInt(3) == 0 ? -1L : model.markAbove(column));
            }
            return fill(() -> marks.remove(0), marks.size());
        }

        private boolean fillStack() {
            int cells = model.state.fronts.size();
            List<Long> order = new ArrayList<>();
            for (int i = 0; i < cells; i++) {
                order.add((long) i);
            }
            Collections.shuffle(order, random);
            if (random.nextInt(3) == 0) {
                List<List<int[]>> lay = Model.flat(cells);
                while (lay.size() > 1) {
                    lay = Model.folded(lay, up(1, lay.size() - 1), up(0, 3));
                }
                for (int i = 0; i < cells; i++) {
                    order.set(i, (long) lay.get(0).get(i)[0]);
                }
            }
            if (random.nextInt(9) == 0) {
                return fill(() -> near(0, cells), near(0, cells));
            }
            return fill(() -> order.remove(0), cells);
        }

        private boolean fillCreases() {
            int many = Math.max(0, model.state.fronts.size() - 1);
            return fill(() -> random.nextInt(40) == 0 ? near(0, 2) : up(0, 2), random.nextInt(10) == 0 ? near(0, many) : many);
        }

        // ---- texts

        private String text() {
            int[] sizes = {0, 1, 2, 2, 3, 3, 3, 4, 4, 4, 5, 5, 5, 6};
            List<String> lines = new ArrayList<>();
            int cells = sizes[random.nextInt(sizes.length)];
            int most = random.nextInt(3) == 0 ? 99 : 3;
            for (int i = 0; i < cells; i++) {
                lines.add("cell " + up(0, most) + gap() + "back " + up(0, most));
            }
            int guests = up(0, 4);
            for (int i = 0; i < guests; i++) {
                lines.add("guest " + up(0, most));
            }
            for (int i = up(0, 2); i > 0; i--) {
                lines.add("worth" + gap() + ":" + sum(0, false));
            }
            for (int i = up(0, 2); i > 0; i--) {
                lines.add("holds:" + gap() + truth(0));
            }
            for (int i = up(0, 2); i > 0; i--) {
                lines.add("likes:" + sum(0, true));
            }
            if (random.nextInt(3) == 0) {
                Collections.shuffle(lines, random);
            }
            StringBuilder text = new StringBuilder();
            for (String line : lines) {
                if (text.length() + line.length() < 880) {
                    text.append(line).append(gap()).append(";").append(gap());
                }
            }
            return text.toString();
        }

        private String gap() {
            String[] gaps = {"", " ", "\n", "  "};
            return random.nextInt(3) == 0 ? gaps[random.nextInt(4)] : " ";
        }

        private String truth(int depth) {
            StringBuilder text = new StringBuilder(unit(depth));
            for (int i = random.nextInt(4) - 1; i > 0; i--) {
                text.append(random.nextBoolean() ? " or " : " and ").append(unit(depth));
            }
            return text.toString();
        }

        private String unit(int depth) {
            if (depth < 8 && random.nextInt(4) == 0) {
                return "not " + unit(depth + 1);
            }
            if (depth < 8 && random.nextInt(4) == 0) {
                return "[" + gap() + truth(depth + 1) + "]";
            }
            return sum(depth, false) + gap() + "=<>".charAt(random.nextInt(3)) + sum(depth, false);
        }

        private String sum(int depth, boolean likes) {
            StringBuilder text = new StringBuilder(term(depth, likes));
            for (int i = random.nextInt(3); i > 0; i--) {
                text.append(gap()).append(random.nextBoolean() ? "+" : "-").append(term(depth, likes));
            }
            return text.toString();
        }

        private String term(int depth, boolean likes) {
            StringBuilder text = new StringBuilder(atom(depth, likes));
            for (int i = random.nextInt(4) - 1; i > 0; i--) {
                text.append(" * ").append(atom(depth, likes));
            }
            return text.toString();
        }

        private String atom(int depth, boolean likes) {
            String[] words = {"wide", "high", "folds", "top", "under", "hidden", "want", "guest"};
            if (depth < 8 && random.nextInt(6) == 0) {
                return "(" + sum(depth + 1, likes) + ")";
            }
            if (random.nextInt(3) == 0) {
                return "" + (random.nextInt(9) == 0 ? up(900, 999) : up(0, 9));
            }
            return words[random.nextInt(likes || random.nextInt(40) == 0 ? 8 : 6)];
        }

        private String broken(String text) {
            StringBuilder broken = new StringBuilder(text);
            String signs = ";:+-*()[]=<> \n\tabc019Z!\u00e9";
            String[] pieces = {" not ", " or ", " and ", "cell ", " back ", "guest ", "1000", "100", "5;", " want", ";;",
                "cell 1 back 1;cell 1 back 1;cell 1 back 1;", "guest 1;guest 1;guest 1;", "((((", "[[[[", "not not not "};
            for (int i = up(1, 2); i > 0; i--) {
                int at = random.nextInt(broken.length() + 1);
                switch (random.nextInt(4)) {
                    case 0: broken.insert(at, signs.charAt(random.nextInt(signs.length()))); break;
                    case 1: broken.insert(at, pieces[random.nextInt(pieces.length)]); break;
                    case 2: broken.delete(at, Math.min(broken.length(), at + up(1, 3))); break;
                    default: broken.setLength(at); break;
                }
            }
            return broken.length() > 900 ? broken.substring(0, 900) : broken.toString();
        }
    }

    private static String answer(Model m, String call, long[] a) {
        try {
            return m.answer(call, a);
        } catch (RuntimeException e) {
            return "throws." + e.getClass().getSimpleName();
        }
    }

    private static String answer(NapkinDeeds x, String call, long[] l) {
        int[] a = new int[5];
        for (int i = 0; i < l.length && i < 5; i++) {
            a[i] = (int) l[i];
        }
        try {
            switch (call) {
                case "feed": return "" + x.feed(a[0], a[1], a[2], a[3], a[4]);
                case "napkin": return "" + x.napkin(a[0]);
                case "fault": return "" + x.fault(a[0]);
                case "cell": return "" + x.cell(a[0], a[1]);
                case "high": return "" + x.high(a[0]);
                case "layer": return "" + x.layer(a[0], a[1]);
                case "above": return "" + x.above(a[0]);
                case "beneath": return "" + x.beneath(a[0]);
                case "crease": return "" + x.crease(a[0]);
                case "folded": return "" + x.folded(a[0]);
                case "worth": return "" + x.worth();
                case "holds": return "" + x.holds();
                case "likes": return "" + x.likes(a[0]);
                case "fold": return "" + x.fold(a[0], a[1]);
                case "unfold": return "" + x.unfold();
                case "shake": return "" + x.shake();
                case "amend": return "" + x.amend(a[0], a[1], a[2]);
                case "undo": return "" + x.undo(a[0]);
                case "judge": return "" + x.judge(a[0], a[1]);
                case "perform": return "" + x.perform(a[0]);
                case "evening": return "" + x.evening(a[0], a[1]);
                case "rows": return "" + x.rows(a[0]);
                case "looks": return "" + x.looks(a[0]);
                case "soonest": return "" + x.soonest(a[0]);
                case "holding": return "" + x.holding(a[0]);
                case "best": return "" + x.best(a[0], a[1]);
                case "reads": return "" + x.reads(a[0], a[1]);
                case "step": return "" + x.step();
                case "stands": return "" + x.stands(a[0]);
                case "stacks": return "" + x.stacks();
                case "stack": return "" + x.stack(a[0]);
                case "simple": return "" + x.simple();
                case "made": return "" + x.made(a[0]);
                case "madeBy": return "" + x.madeBy(a[0], a[1]);
                case "patterns": return "" + x.patterns();
                case "refuse": return "" + x.refuse();
                case "fairest": return "" + x.fairest(a[0], a[1]);
                case "better": return "" + x.better(a[0]);
                case "keenest": return "" + x.keenest(a[0]);
                case "seen": return "" + x.seen(a[0], a[1]);
                case "sure": return "" + x.sure(a[0], a[1]);
                case "look": return "" + x.look(a[0], a[1]);
                case "tray": x.tray(a[0], a[1], a[2]); return "";
                case "write": return "" + x.write(a[0], a[1], l[2]);
                case "copy": return "" + x.copy(a[0]);
                case "image": x.image(a[0]); return "";
                case "restore": x.restore(a[0]); return "";
                default: return "" + x.count(a[0]);
            }
        } catch (RuntimeException e) {
            return "throws." + e.getClass().getSimpleName();
        }
    }

    /** A law's value of the facts: wide, high, folds, top, under, hidden, guest, want. */
    private interface Law {
        long of(long[] facts);
    }

    /** All that an image keeps. */
    private static final class State {
        int lines = 0;
        List<Integer> fronts = new ArrayList<>();
        List<Integer> backs = new ArrayList<>();
        List<Integer> wants = new ArrayList<>();
        Law worth = facts -> 0;
        Law holds = facts -> 0;
        Law likes = facts -> 0;
        List<Integer> folds = new ArrayList<>();
        List<State> past = new ArrayList<>();

        State same() {
            State s = new State();
            s.lines = lines;
            s.fronts.addAll(fronts);
            s.backs.addAll(backs);
            s.wants.addAll(wants);
            s.worth = worth;
            s.holds = holds;
            s.likes = likes;
            s.folds.addAll(folds);
            s.past.addAll(past);
            return s;
        }
    }

    /** A row of folds and how it lies then. */
    private static final class Row {
        final List<Integer> folds;
        final List<List<int[]>> lay;

        Row(List<Integer> folds, List<List<int[]>> lay) {
            this.folds = folds;
            this.lay = lay;
        }
    }

    private static final class Model {
        private static final Map<String, List<Row>> grown = new HashMap<>();

        List<Integer> tape = new ArrayList<>();
        State state = new State();
        private final State[] images = new State[3];
        private final long[][] trays = new long[4][];
        private final int[] sorts = new int[4];
        private int fault = 0;
        private int place = -1;

        static List<List<int[]>> flat(int cells) {
            List<List<int[]>> lay = new ArrayList<>();
            for (int c = 0; c < cells; c++) {
                lay.add(new ArrayList<>(List.of(new int[] {c, 1})));
            }
            return lay;
        }

        /* By places on the table: what goes is mirrored at the line. */
        static List<List<int[]>> folded(List<List<int[]>> lay, int line, int way) {
            TreeMap<Integer, List<int[]>> there = new TreeMap<>();
            for (int x = 0; x < lay.size(); x++) {
                if (way < 2 ? x >= line : x < line) {
                    there.put(x, new ArrayList<>(lay.get(x)));
                }
            }
            for (int x = 0; x < lay.size(); x++) {
                if (way < 2 ? x < line : x >= line) {
                    List<int[]> turned = new ArrayList<>();
                    for (int[] c : lay.get(x)) {
                        turned.add(0, new int[] {c[0], 1 - c[1]});
                    }
                    List<int[]> stack = there.computeIfAbsent(2 * line - 1 - x, k -> new ArrayList<>());
                    stack.addAll(way % 2 == 0 ? stack.size() : 0, turned);
                }
            }
            return new ArrayList<>(there.values());
        }

        List<List<int[]>> lay() {
            List<List<int[]>> lay = flat(state.fronts.size());
            for (int f : state.folds) {
                lay = folded(lay, f / 10, f % 10);
            }
            return lay;
        }

        /* All rows, shorter ones first, those of one length in their order. */
        private static List<Row> rows(List<List<int[]>> start, String name) {
            List<Row> known = grown.get(name);
            if (known != null) {
                return known;
            }
            List<Row> rows = new ArrayList<>();
            rows.add(new Row(new ArrayList<>(), start));
            for (int i = 0; i < rows.size(); i++) {
                Row row = rows.get(i);
                for (int line = 1; line < row.lay.size(); line++) {
                    for (int way = 0; way < 4; way++) {
                        List<Integer> folds = new ArrayList<>(row.folds);
                        folds.add(10 * line + way);
                        rows.add(new Row(folds, folded(row.lay, line, way)));
                    }
                }
            }
            grown.put(name, rows);
            return rows;
        }

        private List<Row> rowsOn(int n) {
            List<Row> rows = new ArrayList<>();
            for (Row row : rows(lay(), state.fronts.size() + " " + state.folds)) {
                if (row.folds.size() <= n) {
                    rows.add(row);
                }
            }
            return rows;
        }

        private List<Row> rowsFromFlat(int n) {
            List<Row> rows = new ArrayList<>();
            for (Row row : rows(flat(state.fronts.size()), state.fronts.size() + " []")) {
                if (row.folds.size() <= n) {
                    rows.add(row);
                }
            }
            return rows;
        }

        private static String name(List<List<int[]>> lay) {
            StringBuilder name = new StringBuilder();
            for (List<int[]> column : lay) {
                for (int[] c : column) {
                    name.append(c[0]).append(c[1] == 1 ? 'u' : 'd');
                }
                name.append('|');
            }
            return name.toString();
        }

        private long mark(int[] c, int faceUp) {
            return c[1] == faceUp ? state.fronts.get(c[0]) : state.backs.get(c[0]);
        }

        long markAbove(List<int[]> column) {
            return mark(column.get(column.size() - 1), 1);
        }

        private long markBeneath(List<int[]> column) {
            return mark(column.get(0), 0);
        }

        private long[] facts(List<List<int[]>> lay, int folds) {
            long[] facts = new long[8];
            facts[0] = lay.size();
            facts[2] = folds;
            for (List<int[]> column : lay) {
                facts[1] = Math.max(facts[1], column.size());
                facts[3] += markAbove(column);
                facts[4] += markBeneath(column);
            }
            for (int c = 0; c < state.fronts.size(); c++) {
                facts[5] += state.fronts.get(c) + state.backs.get(c);
            }
            facts[5] -= facts[3] + facts[4];
            return facts;
        }

        private long likes(List<List<int[]>> lay, int folds, int guest) {
            long[] facts = facts(lay, folds);
            facts[6] = guest;
            facts[7] = state.wants.get(guest);
            return state.likes.of(facts);
        }

        private long likesNow(int guest) {
            return likes(lay(), state.folds.size(), guest);
        }

        private int folds(Row row) {
            return state.folds.size() + row.folds.size();
        }

        private boolean holds(Row row) {
            return state.holds.of(facts(row.lay, folds(row))) != 0;
        }

        private long worth(Row row) {
            return state.worth.of(facts(row.lay, folds(row)));
        }

        private static List<Integer> creases(List<List<int[]>> lay, int cells) {
            List<Integer> creases = new ArrayList<>();
            for (int k = 0; k + 1 < cells; k++) {
                int crease = 0;
                for (List<int[]> column : lay) {
                    int[] lower = null;
                    for (int[] c : column) {
                        if (c[0] == k || c[0] == k + 1) {
                            if (lower != null) {
                                crease = lower[1] == 1 ? 2 : 1;
                            }
                            lower = c;
                        }
                    }
                }
                creases.add(crease);
            }
            return creases;
        }

        // ---- the calls

        String answer(String call, long[] l) {
            int[] a = new int[5];
            for (int i = 0; i < l.length && i < 5; i++) {
                a[i] = (int) l[i];
            }
            switch (call) {
                case "holds": return "" + holds(rowsOn(0).get(0));
                case "stands": return "" + stands(order(a[0]));
                case "tray": tray(a[0], a[1], a[2]); return "";
                case "image": images[imageAt(a[0])] = state.same(); return "";
                case "restore": restore(a[0]); return "";
                case "write": return "" + write(a[0], a[1], l[2]);
                case "feed": return "" + feed(a);
                case "napkin": return "" + napkin(a[0]);
                default: return "" + number(call, a);
            }
        }

        private long number(String call, int[] a) {
            switch (call) {
                case "fault": return a[0] == 0 ? fault : a[0] == 1 ? place : -1;
                case "cell": return cell(a[0], a[1]);
                case "high": return column(a[0]).size();
                case "layer": return layer(a[0], a[1]);
                case "above": return markAbove(column(a[0]));
                case "beneath": return markBeneath(column(a[0]));
                case "crease": needSuch(a[0] >= 0 && a[0] < state.fronts.size() - 1); return creases(lay(), state.fronts.size()).get(a[0]);
                case "folded": need(a[0] >= 0); return a[0] < state.folds.size() ? state.folds.get(a[0]) : -1;
                case "worth": return worth(rowsOn(0).get(0));
                case "likes": needSuch(a[0] >= 0 && a[0] < state.wants.size()); return likesNow(a[0]);
                case "fold": return fold(a[0], a[1]);
                case "unfold": needState(!state.folds.isEmpty()); perform(100); return lay().size();
                case "shake": return shake();
                case "amend": return amend(a[0], a[1], a[2]);
                case "undo": need(a[0] >= 1 && a[0] <= state.past.size()); return undo(a[0]);
                case "judge": return judge(a[0], a[1]);
                case "perform": return performTray(a[0]);
                case "evening": return evening(a[0], a[1]);
                case "step": return step();
                case "stacks": return stacks();
                case "refuse": return refuse();
                case "copy": return copy(a[0]);
                case "count": return count(a[0]);
                case "stack": case "simple": case "made": case "madeBy": case "patterns": return creased(call, a);
                case "seen": case "sure": case "look": return seen(call, a[0], a[1]);
                default: return on(call, a);
            }
        }

        private static void need(boolean right) {
            if (!right) {
                throw new IllegalArgumentException();
            }
        }

        private static void needSuch(boolean there) {
            if (!there) {
                throw new NoSuchElementException();
            }
        }

        private static void needState(boolean right) {
            if (!right) {
                throw new IllegalStateException();
            }
        }

        private int feed(int[] a) {
            if (tape.size() + 20 > 900) {
                return -1;
            }
            for (int i = 0; i < 5; i++) {
                for (int k = 3; k >= 0; k--) {
                    tape.add(a[i] >> 8 * k & 255);
                }
            }
            return tape.size();
        }

        private int napkin(int n) {
            need(n >= 0 && n <= tape.size());
            StringBuilder text = new StringBuilder();
            for (int i = 0; i < n; i++) {
                text.append((char) (int) tape.get(i));
            }
            tape.clear();
            try {
                state = new Parser(text.toString()).parse();
                fault = 0;
                place = -1;
                return state.lines;
            } catch (Fault f) {
                fault = f.kind;
                place = f.place;
                return -10 - fault;
            }
        }

        private long cell(int c, int what) {
            needSuch(c >= 0 && c < state.fronts.size());
            need(what >= 0 && what <= 4);
            if (what < 2) {
                return what == 0 ? state.fronts.get(c) : state.backs.get(c);
            }
            List<List<int[]>> lay = lay();
            for (int x = 0; x < lay.size(); x++) {
                for (int y = 0; y < lay.get(x).size(); y++) {
                    if (lay.get(x).get(y)[0] == c) {
                        return what == 2 ? x : what == 3 ? y : lay.get(x).get(y)[1];
                    }
                }
            }
            throw new AssertionError();
        }

        private List<int[]> column(int x) {
            List<List<int[]>> lay = lay();
            needSuch(x >= 0 && x < lay.size());
            return lay.get(x);
        }

        private long layer(int x, int y) {
            List<int[]> column = column(x);
            need(y >= 0);
            return y < column.size() ? column.get(y)[0] : -1;
        }

        private void remember() {
            State s = state.same();
            state.past.add(s);
            if (state.past.size() > 10) {
                state.past.remove(0);
            }
        }

        private int hindrance(long v) {
            if (v == -1) {
                return 0;
            }
            if (v == 100 || v == 200) {
                return state.folds.isEmpty() ? 2 : 0;
            }
            if (v >= 0 && v <= 99) {
                return v / 10 >= 1 && v / 10 <= lay().size() - 1 && v % 10 <= 3 ? 0 : 1;
            }
            boolean front = v >= 1000 && v <= 1599 && (v - 1000) / 100 < state.fronts.size();
            boolean back = v >= 2000 && v <= 2599 && (v - 2000) / 100 < state.fronts.size();
            return front || back ? 0 : 1;
        }

        private void perform(int v) {
            if (v == -1) {
                return;
            }
            remember();
            if (v == 100) {
                state.folds.remove(state.folds.size() - 1);
            } else if (v == 200) {
                state.folds.clear();
            } else if (v < 100) {
                state.folds.add(v);
            } else if (v < 2000) {
                state.fronts.set((v - 1000) / 100, v % 100);
            } else {
                state.backs.set((v - 2000) / 100, v % 100);
            }
        }

        private int fold(int line, int way) {
            if (line < 1 || line > lay().size() - 1 || way < 0 || way > 3) {
                return -1;
            }
            perform(10 * line + way);
            return lay().size();
        }

        private int shake() {
            needState(!state.folds.isEmpty());
            int folds = state.folds.size();
            perform(200);
            return folds;
        }

        private int amend(int c, int face, int mark) {
            needSuch(c >= 0 && c < state.fronts.size());
            need(face >= 0 && face <= 1 && mark >= 0 && mark <= 99);
            int before = (face == 0 ? state.fronts : state.backs).get(c);
            perform((face == 0 ? 1000 : 2000) + 100 * c + mark);
            return before;
        }

        private int undo(int n) {
            for (int i = 0; i < n; i++) {
                List<State> past = state.past;
                State latest = past.remove(past.size() - 1);
                state = latest.same();
                state.past = past;
            }
            return state.past.size();
        }

        private long[] there(int tray) {
            needSuch(tray >= 0 && tray <= 3);
            needState(trays[tray] != null);
            return trays[tray];
        }

        private long judge(int tray, int what) {
            long[] deeds = there(tray);
            need(what >= 0 && what <= 3);
            State before = state.same();
            long first = -1;
            long why = 0;
            for (int i = 0; i < deeds.length && first < 0; i++) {
                why = hindrance(deeds[i]);
                if (why != 0) {
                    first = i;
                } else {
                    perform((int) deeds[i]);
                }
            }
            long[] answers = {first, why, lay().size(), state.folds.size()};
            state = before;
            return answers[what];
        }

        private int performTray(int tray) {
            long[] deeds = there(tray);
            int i = 0;
            while (i < deeds.length && hindrance(deeds[i]) == 0) {
                perform((int) deeds[i]);
                i++;
            }
            return i;
        }

        private int evening(int seed, int times) {
            need(times >= 1 && times <= 30);
            int[] x = {seed};
            int could = 0;
            for (int i = 0; i < times; i++) {
                int sort = draw(x, 4);
                int deed = sort < 2 ? 10 * (1 + draw(x, 5)) + draw(x, 4) : sort == 2 ? 100 : 1000 + 100 * draw(x, 6) + draw(x, 100);
                if (hindrance(deed) == 0) {
                    perform(deed);
                    could++;
                }
            }
            return could;
        }

        private static int draw(int[] x, int modulo) {
            x[0] = 1103515245 * x[0] + 12345;
            return (x[0] >>> 16) % modulo;
        }

        private static boolean isRowWhat(int what) {
            return what == 0 || what >= 10 && what <= 14;
        }

        private static long rowAnswer(Row row, int what) {
            if (row == null) {
                return -1;
            }
            if (what == 0 || what == 1) {
                return row.folds.size();
            }
            return what - 10 < row.folds.size() ? row.folds.get(what - 10) : -1;
        }

        private long on(String call, int[] a) {
            switch (call) {
                case "rows": need(a[0] >= 0 && a[0] <= 5); return rowsOn(a[0]).stream().filter(r -> r.folds.size() == a[0]).count();
                case "looks": need(a[0] >= 0 && a[0] <= 5); return rowsOn(a[0]).stream().map(r -> name(r.lay)).distinct().count();
                case "soonest": need(isRowWhat(a[0])); return rowAnswer(rowsOn(5).stream().filter(this::holds).findFirst().orElse(null), a[0]);
                case "holding": need(a[0] >= 0 && a[0] <= 5); return rowsOn(a[0]).stream().filter(this::holds).map(r -> name(r.lay)).distinct().count();
                case "best": need(a[0] >= 0 && a[0] <= 5 && (a[1] == 1 || isRowWhat(a[1]))); return greatest(a[0], a[1], this::worth);
                case "fairest": need(a[0] >= 0 && a[0] <= 5 && (a[1] == 1 || isRowWhat(a[1]))); return greatest(a[0], a[1], this::least);
                case "reads": return reads(a[0], a[1]);
                case "better": need(a[0] >= 0 && a[0] <= 5); return better(a[0]);
                case "keenest": need(a[0] >= 0 && a[0] <= 5); return keenest(a[0]);
                default: throw new AssertionError(call);
            }
        }

        private interface Score {
            long of(Row row);
        }

        private long greatest(int n, int what, Score score) {
            Row best = null;
            long most = Long.MIN_VALUE;
            for (Row row : rowsOn(n)) {
                long s = score.of(row);
                if (s > most) {
                    best = row;
                    most = s;
                }
            }
            return what == 0 ? most : rowAnswer(best, what);
        }

        private long least(Row row) {
            long least = Long.MAX_VALUE;
            for (int g = 0; g < state.wants.size(); g++) {
                least = Math.min(least, likes(row.lay, folds(row), g));
            }
            return state.wants.isEmpty() ? 0 : least;
        }

        private boolean readsSo(List<List<int[]>> lay, long[] marks) {
            if (lay.size() != marks.length) {
                return false;
            }
            for (int x = 0; x < marks.length; x++) {
                if (marks[x] != -1 && marks[x] != markAbove(lay.get(x))) {
                    return false;
                }
            }
            return true;
        }

        private static void needSight(long[] marks) {
            need(marks.length >= 1 && marks.length <= 6);
            for (long mark : marks) {
                need(mark >= -1);
            }
        }

        private long reads(int tray, int what) {
            long[] marks = there(tray);
            needSight(marks);
            need(isRowWhat(what));
            return rowAnswer(rowsOn(5).stream().filter(r -> readsSo(r.lay, marks)).findFirst().orElse(null), what);
        }

        private long step() {
            long most = worth(rowsOn(0).get(0));
            long first = -1;
            for (Row row : rowsOn(1)) {
                if (worth(row) > most) {
                    most = worth(row);
                    first = row.folds.get(0);
                }
            }
            return first;
        }

        private long better(int n) {
            Set<String> better = new HashSet<>();
            for (Row row : rowsOn(n)) {
                boolean less = false;
                boolean more = false;
                for (int g = 0; g < state.wants.size(); g++) {
                    long gain = likes(row.lay, folds(row), g) - likesNow(g);
                    less = less || gain < 0;
                    more = more || gain > 0;
                }
                if (more && !less) {
                    better.add(name(row.lay));
                }
            }
            return better.size();
        }

        private long keenest(int n) {
            long keenest = -1;
            long most = -1;
            for (int g = 0; g < state.wants.size(); g++) {
                int guest = g;
                long gain = greatest(n, 0, r -> likes(r.lay, folds(r), guest)) - likesNow(g);
                if (gain > most) {
                    keenest = g;
                    most = gain;
                }
            }
            return keenest;
        }

        private List<Integer> order(int tray) {
            List<Integer> order = new ArrayList<>();
            for (long v : there(tray)) {
                need(v >= 0 && v < state.fronts.size() && !order.contains((int) v));
                order.add((int) v);
            }
            need(order.size() == state.fronts.size());
            return order;
        }

        private static boolean stands(List<Integer> order) {
            for (int k = 0; k + 1 < order.size(); k++) {
                for (int l = k + 2; l + 1 < order.size(); l += 2) {
                    int[] p = {order.indexOf(k), order.indexOf(k + 1)};
                    int[] q = {order.indexOf(l), order.indexOf(l + 1)};
                    Arrays.sort(p);
                    int inside = 0;
                    for (int place : q) {
                        inside += place > p[0] && place < p[1] ? 1 : 0;
                    }
                    if (inside == 1) {
                        return false;
                    }
                }
            }
            return true;
        }

        private long stacks() {
            return standing(new ArrayList<>());
        }

        private long standing(List<Integer> begun) {
            if (begun.size() == state.fronts.size()) {
                return stands(begun) ? 1 : 0;
            }
            long found = 0;
            for (int c = 0; c < state.fronts.size(); c++) {
                if (!begun.contains(c)) {
                    begun.add(c);
                    found += standing(begun);
                    begun.remove(begun.size() - 1);
                }
            }
            return found;
        }

        private static List<Integer> orderOf(List<List<int[]>> lay) {
            List<Integer> order = new ArrayList<>();
            for (List<int[]> column : lay) {
                for (int[] c : column) {
                    order.add(c[0]);
                }
            }
            return order;
        }

        private long creased(String call, int[] a) {
            int cells = state.fronts.size();
            if (call.equals("simple")) {
                return rowsFromFlat(5).stream().filter(r -> r.lay.size() <= 1).map(r -> orderOf(r.lay)).distinct().count();
            }
            if (call.equals("patterns")) {
                return rowsFromFlat(5).stream().map(r -> creases(r.lay, cells)).distinct().count();
            }
            if (call.equals("stack")) {
                List<Integer> order = order(a[0]);
                return rowAnswer(rowsFromFlat(5).stream().filter(r -> r.lay.size() <= 1 && orderOf(r.lay).equals(order)).findFirst().orElse(null), 0);
            }
            List<Integer> told = new ArrayList<>();
            for (long v : there(a[0])) {
                need(v >= 0 && v <= 2);
                told.add((int) v);
            }
            need(told.size() == Math.max(0, cells - 1));
            if (call.equals("made")) {
                return rowsFromFlat(5).stream().filter(r -> creases(r.lay, cells).equals(told)).count();
            }
            need(a[1] >= 0);
            Row first = rowsFromFlat(5).stream().filter(r -> creases(r.lay, cells).equals(told)).findFirst().orElse(null);
            return a[1] > 5 ? -1 : rowAnswer(first, 10 + a[1]);
        }

        private long refuse() {
            long bits = 0;
            for (int g = 0; g < state.wants.size(); g++) {
                if (likesNow(g) < likes(flat(state.fronts.size()), 0, g)) {
                    bits += 1L << g;
                }
            }
            return bits;
        }

        private long seen(String call, int tray, int m) {
            long[] marks = there(tray);
            needSight(marks);
            need(m >= 0 && m <= 4);
            List<Row> rows = new ArrayList<>();
            for (Row row : rowsFromFlat(m)) {
                if (readsSo(row.lay, marks)) {
                    rows.add(row);
                }
            }
            if (call.equals("seen")) {
                return rows.size();
            }
            return call.equals("sure") ? sure(rows) : look(rows, marks.length);
        }

        private long sure(List<Row> rows) {
            long bits = 0;
            for (int k = 0; k + 1 < state.fronts.size(); k++) {
                boolean all = !rows.isEmpty();
                for (Row row : rows) {
                    all = all && creases(row.lay, state.fronts.size()).get(k) != 0;
                }
                bits += all ? 1L << k : 0;
            }
            return bits;
        }

        private long look(List<Row> rows, int columns) {
            long column = -1;
            int least = Integer.MAX_VALUE;
            for (int x = 0; x < columns && !rows.isEmpty(); x++) {
                Map<Long, Integer> groups = new HashMap<>();
                for (Row row : rows) {
                    groups.merge(markBeneath(row.lay.get(x)), 1, Integer::sum);
                }
                int greatest = Collections.max(groups.values());
                if (greatest < least) {
                    least = greatest;
                    column = x;
                }
            }
            return column;
        }

        private void tray(int tray, int sort, int many) {
            needSuch(tray >= 0 && tray <= 3);
            need(sort >= 0 && sort <= 3 && many >= 0 && many <= 30);
            trays[tray] = new long[many];
            sorts[tray] = sort;
        }

        private long write(int tray, int at, long v) {
            long[] row = there(tray);
            if (at < 0 || at >= row.length) {
                throw new IndexOutOfBoundsException();
            }
            int lost = new int[] {56, 48, 32, 0}[sorts[tray]];
            row[at] = v << lost >> lost;
            return row[at];
        }

        private int copy(int tray) {
            long[] row = there(tray);
            List<List<int[]>> lay = lay();
            int many = 0;
            while (many < row.length && many < lay.size()) {
                write(tray, many, markAbove(lay.get(many)));
                many++;
            }
            return many;
        }

        private static int imageAt(int i) {
            needSuch(i >= 0 && i <= 2);
            return i;
        }

        private void restore(int i) {
            imageAt(i);
            needState(images[i] != null);
            state = images[i].same();
        }

        private long count(int what) {
            long[] facts = facts(lay(), state.folds.size());
            long[] counts = {state.lines, state.fronts.size(), state.wants.size(), facts[0], facts[1], facts[2], facts[3],
                facts[4], facts[5], state.past.size(), tape.size()};
            return what >= 0 && what < counts.length ? counts[what] : -1;
        }
    }

    private static final class Fault extends RuntimeException {
        private static final long serialVersionUID = 1L;
        final int kind;
        final int place;

        Fault(int kind, int place) {
            this.kind = kind;
            this.place = place;
        }
    }

    /** Takes all tokens first, then parses to trees. */
    private static final class Parser {
        private final List<String> tokens = new ArrayList<>();
        private final List<Integer> places = new ArrayList<>();
        private final State state = new State();
        private int at = 0;
        private boolean likes = false;

        Parser(String text) {
            java.util.regex.Matcher m = java.util.regex.Pattern.compile("[a-z]+|[0-9]+|[^ \n]").matcher(text);
            while (m.find()) {
                tokens.add(m.group());
                places.add(m.start());
            }
            tokens.add("");
            places.add(text.length());
        }

        State parse() {
            while (!see("")) {
                line();
                take(";");
                state.lines++;
            }
            return state;
        }

        private boolean see(String token) {
            return tokens.get(at).equals(token);
        }

        private RuntimeException wrong() {
            boolean bad = tokens.get(at).matches("[0-9]{4,}|[^a-z0-9;:+*()\\[\\]=<>-]");
            return new Fault(bad ? 1 : 2, places.get(at));
        }

        private void take(String token) {
            if (!see(token)) {
                throw wrong();
            }
            at++;
        }

        private int number(int most) {
            if (!tokens.get(at).matches("[0-9]{1,3}")) {
                throw wrong();
            }
            int n = Integer.parseInt(tokens.get(at));
            if (n > most) {
                throw new Fault(3, places.get(at));
            }
            at++;
            return n;
        }

        private void room(boolean there) {
            if (!there) {
                throw new Fault(4, places.get(at));
            }
            at++;
        }

        private void line() {
            if (see("cell")) {
                room(state.fronts.size() < 6);
                int front = number(99);
                take("back");
                int back = number(99);
                state.fronts.add(front);
                state.backs.add(back);
            } else if (see("guest")) {
                room(state.wants.size() < 4);
                state.wants.add(number(99));
            } else if (see("worth")) {
                at++;
                take(":");
                likes = false;
                state.worth = sum(0);
            } else if (see("holds")) {
                at++;
                take(":");
                likes = false;
                state.holds = truth(0);
            } else if (see("likes")) {
                at++;
                take(":");
                likes = true;
                state.likes = sum(0);
            } else {
                throw wrong();
            }
        }

        private Law truth(int depth) {
            Law left = both(depth);
            while (see("or")) {
                at++;
                Law a = left;
                Law b = both(depth);
                left = f -> a.of(f) != 0 || b.of(f) != 0 ? 1 : 0;
            }
            return left;
        }

        private Law both(int depth) {
            Law left = unit(depth);
            while (see("and")) {
                at++;
                Law a = left;
                Law b = unit(depth);
                left = f -> a.of(f) != 0 && b.of(f) != 0 ? 1 : 0;
            }
            return left;
        }

        private Law unit(int depth) {
            if (see("not")) {
                room(depth < 6);
                Law a = unit(depth + 1);
                return f -> a.of(f) == 0 ? 1 : 0;
            }
            if (see("[")) {
                room(depth < 6);
                Law a = truth(depth + 1);
                take("]");
                return a;
            }
            Law a = sum(depth);
            String sign = tokens.get(at);
            if (!sign.matches("[=<>]")) {
                throw wrong();
            }
            at++;
            Law b = sum(depth);
            return f -> {
                int order = Long.compare(a.of(f), b.of(f));
                return (sign.equals("=") ? order == 0 : sign.equals("<") ? order < 0 : order > 0) ? 1 : 0;
            };
        }

        private static long keep(long v) {
            return v > 1000000 ? 1000000 : v < -1000000 ? -1000000 : v;
        }

        private Law sum(int depth) {
            Law left = term(depth);
            while (see("+") || see("-")) {
                int sign = see("+") ? 1 : -1;
                at++;
                Law a = left;
                Law b = term(depth);
                left = f -> keep(a.of(f) + sign * b.of(f));
            }
            return left;
        }

        private Law term(int depth) {
            Law left = atom(depth);
            while (see("*")) {
                at++;
                Law a = left;
                Law b = atom(depth);
                left = f -> keep(a.of(f) * b.of(f));
            }
            return left;
        }

        private Law atom(int depth) {
            if (see("(")) {
                room(depth < 6);
                Law a = sum(depth + 1);
                take(")");
                return a;
            }
            List<String> words = List.of("wide", "high", "folds", "top", "under", "hidden", "guest", "want");
            int which = words.indexOf(tokens.get(at));
            if (which >= 0 && (likes || which < 6)) {
                at++;
                return f -> f[which];
            }
            int n = number(999);
            return f -> n;
        }
    }
}
