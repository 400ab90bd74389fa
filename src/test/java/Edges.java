import java.lang.annotation.ElementType;
import java.lang.annotation.Retention;
import java.lang.annotation.RetentionPolicy;
import java.lang.annotation.Target;
import java.util.NoSuchElementException;

/** What the tests of edges share: how a sentence is quoted, a napkin told, an answer or a throw awaited. */
abstract class Edges {
    static final int TERMS = 0;
    static final String STRIP = "cell 1 back 9;cell 2 back 8;cell 3 back 7;";
    static final Class<NoSuchElementException> NO_SUCH = NoSuchElementException.class;
    static final Class<IllegalArgumentException> ARGUMENT = IllegalArgumentException.class;
    static final Class<IllegalStateException> STATE = IllegalStateException.class;
    static final Class<IndexOutOfBoundsException> INDEX = IndexOutOfBoundsException.class;
    static final int LEAST = Integer.MIN_VALUE;
    static final int MOST = Integer.MAX_VALUE;

    /** The sentence of ../shared/DOC.md that a test would catch broken: of a promise, or of the 'Terms' (0). */
    @Retention(RetentionPolicy.RUNTIME)
    @Target(ElementType.METHOD)
    @interface Says {
        int promise();

        String value();
    }

    interface Call {
        void on(NapkinDeeds x);
    }

    interface Scene {
        NapkinDeeds make();
    }

    // ---- what is due

    static void due(long want, long got) {
        if (want != got) {
            throw new AssertionError("answered " + got + ", due is " + want);
        }
    }

    static void due(String want, String got) {
        if (!want.equals(got)) {
            throw new AssertionError("answered <" + got + ">, due is <" + want + ">");
        }
    }

    static void dueTrue(boolean got) {
        due(1, got ? 1 : 0);
    }

    static void dueFalse(boolean got) {
        due(0, got ? 1 : 0);
    }

    static String thrown(NapkinDeeds x, Call call) {
        try {
            call.on(x);
            return "nothing";
        } catch (RuntimeException e) {
            return e.getClass().getName();
        }
    }

    /** The call throws just this, and the object then answers as one on which it never was called. */
    static void refused(Class<?> kind, Scene scene, Call call) {
        NapkinDeeds x = scene.make();
        due(kind.getName(), thrown(x, call));
        due(Probe.of(scene.make()), Probe.of(x));
    }

    static void refused(Class<?> kind, Call call) {
        refused(kind, Edges::scene, call);
    }

    /** The call answers this, and the object then answers as one on which it never was called. */
    static void nothingHappens(long want, Scene scene, Answer answer) {
        NapkinDeeds x = scene.make();
        due(want, answer.of(x));
        due(Probe.of(scene.make()), Probe.of(x));
    }

    interface Answer {
        long of(NapkinDeeds x);
    }

    /** A napkin in use: folds, deeds, an image; trays 0 to 2 are there, 3 is missing; no fault, an empty tape. */
    static NapkinDeeds used() {
        NapkinDeeds x = told(STRIP + "guest 2;guest 5;worth:top*10-under+wide;holds:high=3;likes:want*high-guest*folds;");
        x.fold(2, 0);
        x.amend(1, 1, 33);
        x.image(1);
        x.fold(1, 3);
        x.unfold();
        fill(x, 0, 10, 1042, 100, 200);
        fill(x, 1, 2, -1);
        fill(x, 2, 2, 0, 1);
        return x;
    }

    /** As it is used, with a fault and something on the tape. */
    static NapkinDeeds scene() {
        NapkinDeeds x = used();
        tell(x, "guest 100;");
        feed(x, "cell 4 back 4;guest 1;guest 300;");
        return x;
    }

    // ---- telling

    static void feed(NapkinDeeds x, String text) {
        for (int i = 0; i < text.length(); i += 20) {
            int[] a = new int[5];
            for (int k = 0; k < 20; k++) {
                a[k / 4] = a[k / 4] << 8 | (i + k < text.length() ? text.charAt(i + k) : ' ');
            }
            x.feed(a[0], a[1], a[2], a[3], a[4]);
        }
    }

    static int tell(NapkinDeeds x, String text) {
        feed(x, text);
        return x.napkin(text.length());
    }

    static NapkinDeeds told(String text) {
        NapkinDeeds x = new NapkinDeeds();
        int lines = tell(x, text);
        if (lines < 0) {
            throw new AssertionError("<" + text + "> has fault " + x.fault(0) + " at " + x.fault(1));
        }
        return x;
    }

    /** So many cells, cell c with mark 10 + c in front and 20 + c at its back, and what more the napkin tells. */
    static NapkinDeeds strip(int cells, String more) {
        return told(cells(cells) + more);
    }

    static String cells(int cells) {
        StringBuilder text = new StringBuilder();
        for (int c = 0; c < cells; c++) {
            text.append("cell ").append(10 + c).append(" back ").append(20 + c).append(";");
        }
        return text.toString();
    }

    static NapkinDeeds strip(int cells) {
        return strip(cells, "");
    }

    static void fault(int kind, int place, String text) {
        NapkinDeeds x = new NapkinDeeds();
        int answer = tell(x, text);
        String what = "<" + text + "> ";
        due(what + (-10 - kind) + " " + kind + " " + place, what + answer + " " + x.fault(0) + " " + x.fault(1));
    }

    static void fine(String text) {
        told(text);
    }

    static void fill(NapkinDeeds x, int tray, long... numbers) {
        x.tray(tray, 3, numbers.length);
        for (int i = 0; i < numbers.length; i++) {
            x.write(tray, i, numbers[i]);
        }
    }

    static NapkinDeeds filled(NapkinDeeds x, long... numbers) {
        fill(x, 0, numbers);
        return x;
    }

    static NapkinDeeds folded(NapkinDeeds x, int... folds) {
        for (int fold : folds) {
            dueTrue(x.fold(fold / 10, fold % 10) > 0);
        }
        return x;
    }

    static String times(int n, String part) {
        return part.repeat(n);
    }

    /** How it lies: columns from the left, each from its lowest cell on; a cell whose front is down has a '. */
    static String lies(NapkinDeeds x) {
        StringBuilder s = new StringBuilder();
        for (int column = 0; column < x.count(3); column++) {
            s.append(column > 0 ? "|" : "");
            for (int layer = 0; layer < x.high(column); layer++) {
                int c = x.layer(column, layer);
                s.append(layer > 0 ? " " : "").append(c).append(x.cell(c, 4) == 1 ? "" : "'");
            }
        }
        return s.toString();
    }
}
