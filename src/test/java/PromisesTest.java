import java.util.NoSuchElementException;

/** Told answers, promise by promise: ordinary inputs, the edges that the document names, wrong inputs. */
public final class PromisesTest {
    private static final String STRIP = "cell 1 back 9;cell 2 back 8;cell 3 back 7;";
    private static final Class<NoSuchElementException> NO_SUCH = NoSuchElementException.class;
    private static final Class<IllegalArgumentException> ARGUMENT = IllegalArgumentException.class;
    private static final Class<IllegalStateException> STATE = IllegalStateException.class;
    private static final Class<IndexOutOfBoundsException> INDEX = IndexOutOfBoundsException.class;

    private static int promise = 0;
    private static int checks = 0;
    private static int wrong = 0;

    private interface Call {
        void run();
    }

    private static void due(long want, long got) {
        checks++;
        if (got != want) {
            wrong++;
            StackTraceElement at = new Throwable().getStackTrace()[1];
            System.out.println("promise " + promise + ", line " + at.getLineNumber() + ": answered " + got + ", due is " + want);
        }
    }

    private static void due(boolean got) {
        checks++;
        if (!got) {
            wrong++;
            StackTraceElement at = new Throwable().getStackTrace()[1];
            System.out.println("promise " + promise + ", line " + at.getLineNumber() + ": not so");
        }
    }

    private static void refused(Class<? extends RuntimeException> kind, Call call) {
        checks++;
        StackTraceElement at = new Throwable().getStackTrace()[1];
        try {
            call.run();
            wrong++;
            System.out.println("promise " + promise + ", line " + at.getLineNumber() + ": threw nothing");
        } catch (RuntimeException e) {
            if (e.getClass() != kind) {
                wrong++;
                System.out.println("promise " + promise + ", line " + at.getLineNumber() + ": threw " + e);
            }
        }
    }

    private static void feed(NapkinDeeds x, String text) {
        for (int i = 0; i < text.length(); i += 20) {
            int[] a = new int[5];
            for (int k = 0; k < 20; k++) {
                a[k / 4] = a[k / 4] << 8 | (i + k < text.length() ? text.charAt(i + k) : ' ');
            }
            x.feed(a[0], a[1], a[2], a[3], a[4]);
        }
    }

    private static int tell(NapkinDeeds x, String text) {
        feed(x, text);
        return x.napkin(text.length());
    }

    private static NapkinDeeds told(String text) {
        NapkinDeeds x = new NapkinDeeds();
        due(tell(x, text) >= 0);
        return x;
    }

    private static void fill(NapkinDeeds x, int tray, long... numbers) {
        x.tray(tray, 3, numbers.length);
        for (int i = 0; i < numbers.length; i++) {
            x.write(tray, i, numbers[i]);
        }
    }

    private static void fault(String text, int kind, int place) {
        NapkinDeeds x = new NapkinDeeds();
        int answer = tell(x, text);
        if (answer != -10 - kind || x.fault(0) != kind || x.fault(1) != place) {
            System.out.println("<" + text + ">: " + answer + ", fault " + x.fault(0) + " at " + x.fault(1));
            wrong++;
        }
        checks++;
    }

    private static String times(int n, String part) {
        return part.repeat(n);
    }

    public static void main(String[] args) {
        napkin();
        reading();
        lying();
        laws();
        deeds();
        toldDeeds();
        on();
        fiveFolds();
        stacksAndCreases();
        guests();
        seen();
        traysAndImages();
        System.out.println("PromisesTest: " + checks + " checks, " + wrong + " wrong");
        System.exit(wrong == 0 ? 0 : 1);
    }

    private static void napkin() {
        promise = 1;
        NapkinDeeds x = new NapkinDeeds();
        due(-1, NapkinDeeds.NONE);
        for (int what = 0; what <= 10; what++) {
            due(0, x.count(what));
        }
        for (int tray = 0; tray < 4; tray++) {
            int missing = tray;
            refused(STATE, () -> x.copy(missing));
        }
        due(0, x.fault(0));
        due(-1, x.fault(1));

        promise = 2;
        for (int i = 1; i <= 45; i++) {
            due(20 * i, x.feed(0x20202020, 0x20202020, 0x20202020, 0x20202020, 0x20202020));
        }
        due(-1, x.feed(1, 2, 3, 4, 5));
        due(900, x.count(10));
        due(0, x.napkin(900));
        due(20, x.feed(0x77657374, 0, 0, 0, 0));
        due(-12, x.napkin(4));
        due(0, x.fault(1));
        x.feed(0x0A0A0A0A, 0x0A0A0A0A, 0x0A0A0A0A, 0x0A0A0A0A, 0x0A0A0AFF);
        due(-11, x.napkin(20));
        due(19, x.fault(1));

        promise = 3;
        NapkinDeeds y = told(STRIP);
        due(3, y.count(0));
        y.fold(1, 0);
        y.feed(0x20202020, 0, 0, 0, 0);
        refused(ARGUMENT, () -> y.napkin(-1));
        refused(ARGUMENT, () -> y.napkin(21));
        due(20, y.count(10));
        due(-11, y.napkin(5));
        due(0, y.count(10));
        due(3, y.count(1));
        due(1, y.count(5));
        due(1, y.count(9));
        due(0, y.napkin(0));
        due(0, y.count(0));
        due(0, y.count(1));
        due(0, y.count(9));
        due(2, tell(y, "guest 3;guest 4;"));
        due(2, y.count(2));

        promise = 4;
        tell(y, "cell 1 back;");
        due(2, y.fault(0));
        due(11, y.fault(1));
        refused(ARGUMENT, () -> y.napkin(1));
        due(2, y.fault(0));
        due(-1, y.fault(2));
        due(-1, y.fault(-1));
        due(1, tell(y, "guest 9;"));
        due(0, y.fault(0));
        due(-1, y.fault(1));
    }

    private static void reading() {
        promise = 3;
        due(2, tell(new NapkinDeeds(), "\n cell1back2 ;guest\n3; "));
        due(1, tell(new NapkinDeeds(), "likes:want*guest+(wide-high)*(top+under-hidden)-folds*999;"));
        due(1, tell(new NapkinDeeds(), "holds:[1=1 or 2<3]and not[4>5 and(6)=7];"));
        due(1, tell(new NapkinDeeds(), "holds:not[not[not[1=1]]]and[[[[[(1)=1]]]]];"));
        due(1, tell(new NapkinDeeds(), "worth:((((((007))))));"));
        fault("Cell 1 back 1;", 1, 0);
        fault("cell 1 back 1; \t", 1, 15);
        fault("\u00e9", 1, 0);
        fault("worth:1.5;", 1, 7);
        fault("worth:12345;", 1, 6);
        fault("cell 1 1000;", 1, 7);
        fault("cells 1 back 1;", 2, 0);
        fault("back", 2, 0);
        fault(";", 2, 0);
        fault("z", 2, 0);
        fault("cellz 1 back 1;", 2, 0);
        fault("worth;", 2, 5);
        fault("holds;", 2, 5);
        fault("cell 1 back 1", 2, 13);
        fault("cell 1 back 1  ", 2, 15);
        fault("cell 1 back", 2, 11);
        fault("cell 1 100;", 2, 7);
        fault("worth:wide+;", 2, 11);
        fault("worth:-1;", 2, 6);
        fault("worth:1 2;", 2, 8);
        fault("worth:1=1;", 2, 7);
        fault("worth:[1];", 2, 6);
        fault("worth:not 1;", 2, 6);
        fault("worth:back;", 2, 6);
        fault("worth:want;", 2, 6);
        fault("holds:guest=1;", 2, 6);
        fault("holds:(1=1);", 2, 8);
        fault("holds:[1=1;", 2, 10);
        fault("holds:1=1=1;", 2, 9);
        fault("holds:1=1 or;", 2, 12);
        fault("holds:[1=1]=1;", 2, 11);
        fault("likes:1 and 1;", 2, 8);
        fault("cell 100 back 1;", 3, 5);
        fault("cell 1 back 100;", 3, 12);
        fault("guest 999;", 3, 6);
        fault(times(7, "cell 1 back 1;"), 4, 84);
        fault(times(6, "cell 1 back 1;") + "cell?", 4, 84);
        fault(times(5, "guest 1;"), 4, 32);
        fault("worth:(((((((1)))))));", 4, 12);
        fault("holds:[[[[[[[1=1]]]]]]];", 4, 12);
        fault("holds:not [not [not [(1)=1]]];", 4, 21);
        fault("holds:[[[[[[(1)=1]]]]]];", 4, 12);
        fault("worth:((((((1((", 2, 13);
    }

    private static void lying() {
        NapkinDeeds x = told(STRIP);
        promise = 5;
        due(2, x.cell(1, 0));
        due(8, x.cell(1, 1));
        due(1, x.cell(1, 2));
        due(0, x.cell(1, 3));
        due(1, x.cell(1, 4));
        refused(NO_SUCH, () -> x.cell(3, 0));
        refused(NO_SUCH, () -> x.cell(-1, 9));
        refused(ARGUMENT, () -> x.cell(0, -1));
        refused(ARGUMENT, () -> x.cell(0, 5));

        promise = 15;
        due(2, x.fold(2, 1));
        promise = 5;
        due(1, x.cell(0, 2));
        due(0, x.cell(0, 4));
        due(0, x.cell(1, 2));
        due(0, x.cell(1, 3));
        due(0, x.cell(1, 4));
        due(1, x.cell(2, 3));
        due(1, x.cell(2, 4));

        promise = 6;
        due(2, x.high(0));
        due(1, x.high(1));
        refused(NO_SUCH, () -> x.high(2));
        refused(NO_SUCH, () -> x.high(-1));
        refused(NO_SUCH, () -> new NapkinDeeds().high(0));

        promise = 7;
        due(1, x.layer(0, 0));
        due(2, x.layer(0, 1));
        due(-1, x.layer(0, 2));
        due(0, x.layer(1, 0));
        due(-1, x.layer(1, Integer.MAX_VALUE));
        refused(NO_SUCH, () -> x.layer(2, -1));
        refused(ARGUMENT, () -> x.layer(0, -1));

        promise = 8;
        due(3, x.above(0));
        due(9, x.above(1));
        refused(NO_SUCH, () -> x.above(2));
        refused(NO_SUCH, () -> x.above(-1));

        promise = 9;
        due(2, x.beneath(0));
        due(1, x.beneath(1));
        refused(NO_SUCH, () -> x.beneath(2));
        refused(NO_SUCH, () -> x.beneath(-1));

        promise = 10;
        due(0, x.crease(0));
        due(1, x.crease(1));
        x.fold(1, 0);
        due(1, x.crease(0));
        due(1, x.crease(1));
        refused(NO_SUCH, () -> x.crease(2));
        refused(NO_SUCH, () -> x.crease(-1));
        refused(NO_SUCH, () -> told("cell 1 back 2;").crease(0));

        promise = 11;
        due(21, x.folded(0));
        due(10, x.folded(1));
        due(-1, x.folded(2));
        refused(ARGUMENT, () -> x.folded(-1));
    }

    private static void laws() {
        promise = 12;
        due(0, told(STRIP).worth());
        due(1000000, told("worth:999*999*999;").worth());
        due(-1000000, told("worth:0-999*999-999*999;").worth());
        due(999001, told("worth:999*999*999-999;").worth());
        due(7, told("worth:1+2*3;").worth());
        due(9, told("worth:(1+2)*3;").worth());
        due(-4, told("worth:1-2-3;").worth());
        due(2, told("worth:1;worth:2;").worth());
        NapkinDeeds x = told(STRIP + "worth:wide*100+high*10+folds;");
        due(310, x.worth());
        x.fold(1, 2);
        due(221, x.worth());

        promise = 13;
        due(!told(STRIP).holds());
        due(told("holds:1=1 or 1=1 and 1=2;").holds());
        due(!told("holds:[1=1 or 1=1] and 1=2;").holds());
        due(!told("holds:not 1=1 or 1=2;").holds());
        due(told("holds:1<2;").holds());
        due(!told("holds:2<2;").holds());
        due(told("holds:3>2;").holds());
        due(!told("holds:2>2;").holds());
        due(!told("holds:1=1;holds:1=2;").holds());

        promise = 14;
        NapkinDeeds y = told("guest 5;guest 7;likes:want*10+guest;");
        due(50, y.likes(0));
        due(71, y.likes(1));
        refused(NO_SUCH, () -> y.likes(2));
        refused(NO_SUCH, () -> y.likes(-1));
        due(0, told("guest 5;").likes(0));
    }

    private static void deeds() {
        promise = 15;
        NapkinDeeds x = told(STRIP);
        due(-1, x.fold(0, 0));
        due(-1, x.fold(3, 0));
        due(-1, x.fold(1, 4));
        due(-1, x.fold(1, -1));
        due(-1, x.fold(Integer.MIN_VALUE, 0));
        due(0, x.count(9));
        due(2, x.fold(2, 0));
        due(3, x.cell(2, 0));
        due(2, x.layer(0, 0));
        due(1, x.layer(0, 1));
        due(0, x.layer(1, 0));
        due(1, x.fold(1, 3));
        due(0, x.layer(0, 0));
        due(2, x.layer(0, 1));
        due(1, x.layer(0, 2));
        due(-1, x.fold(1, 0));
        NapkinDeeds six = told(times(6, "cell 0 back 1;"));
        due(5, six.fold(1, 2));
        due(5, six.layer(0, 0));
        due(0, six.layer(4, 0));
        due(1, six.layer(4, 1));
        due(0, six.cell(1, 4));
        due(2, six.layer(3, 0));
        due(-1, six.layer(0, 1));

        promise = 16;
        due(2, x.unfold());
        due(3, x.unfold());
        refused(STATE, () -> x.unfold());
        due(4, x.count(9));

        promise = 17;
        refused(STATE, () -> x.shake());
        x.fold(1, 0);
        x.fold(1, 0);
        due(2, x.shake());
        due(3, x.count(3));
        due(0, x.count(5));

        promise = 18;
        due(1, x.amend(0, 0, 99));
        due(99, x.amend(0, 0, 99));
        due(9, x.amend(0, 1, 0));
        due(0, x.cell(0, 1));
        due(99, x.above(0));
        refused(NO_SUCH, () -> x.amend(3, 5, 5));
        refused(NO_SUCH, () -> x.amend(-1, 0, 0));
        refused(ARGUMENT, () -> x.amend(0, -1, 0));
        refused(ARGUMENT, () -> x.amend(0, 2, 0));
        refused(ARGUMENT, () -> x.amend(0, 0, -1));
        refused(ARGUMENT, () -> x.amend(0, 0, 100));

        promise = 19;
        due(10, x.count(9));
        refused(ARGUMENT, () -> x.undo(0));
        refused(ARGUMENT, () -> x.undo(11));
        due(7, x.undo(3));
        due(1, x.cell(0, 0));
        due(9, x.cell(0, 1));
        due(6, x.undo(1));
        due(2, x.count(5));
        due(1, x.count(3));
        refused(ARGUMENT, () -> x.undo(7));
        due(0, x.undo(6));
        due(3, x.count(3));
        due(0, x.count(5));
        refused(ARGUMENT, () -> x.undo(1));
    }

    private static void toldDeeds() {
        promise = 20;
        NapkinDeeds x = told(STRIP);
        fill(x, 0, 10, -1, 2299, 100, 100, 10);
        due(4, x.judge(0, 0));
        due(2, x.judge(0, 1));
        due(3, x.judge(0, 2));
        due(0, x.judge(0, 3));
        due(7, x.cell(2, 1));
        due(0, x.count(9));
        refused(ARGUMENT, () -> x.judge(0, -1));
        refused(ARGUMENT, () -> x.judge(0, 4));
        refused(NO_SUCH, () -> x.judge(4, 9));
        refused(STATE, () -> x.judge(1, 9));
        long[] cannot = {0, 3, 9, 14, 30, 99, 101, 199, 201, 999, 1300, 1600, 1999, 2300, 2600, -2, 1L << 32, (1L << 32) + 10,
            Long.MIN_VALUE, Long.MAX_VALUE};
        for (long deed : cannot) {
            fill(x, 0, deed);
            due(0, x.judge(0, 0));
            due(1, x.judge(0, 1));
            due(3, x.judge(0, 2));
        }
        for (long deed : new long[] {-1, 10, 23, 1000, 1299, 2000, 2299}) {
            fill(x, 0, deed);
            due(-1, x.judge(0, 0));
            due(0, x.judge(0, 1));
        }
        fill(x, 0, 200);
        due(2, x.judge(0, 1));
        fill(x, 0, 10, 12, 10);
        due(2, x.judge(0, 0));
        due(1, x.judge(0, 2));
        due(2, x.judge(0, 3));
        fill(x, 0);
        due(-1, x.judge(0, 0));
        due(0, x.judge(0, 1));

        promise = 21;
        fill(x, 0, -1, 23, 1050, 2051, -1, 200, 200, 10);
        due(6, x.perform(0));
        due(4, x.count(9));
        due(50, x.cell(0, 0));
        due(51, x.cell(0, 1));
        due(0, x.count(5));
        x.undo(1);
        due(23, x.folded(0));
        refused(NO_SUCH, () -> x.perform(-1));
        refused(STATE, () -> x.perform(3));

        promise = 22;
        NapkinDeeds y = told(STRIP);
        refused(ARGUMENT, () -> y.evening(1, 0));
        refused(ARGUMENT, () -> y.evening(1, 31));
        int could = 0;
        NapkinDeeds z = told(STRIP);
        int[] draw = {77};
        for (int i = 0; i < 30; i++) {
            could += drawn(z, draw) ? 1 : 0;
        }
        due(could, y.evening(77, 30));
        for (int c = 0; c < 3; c++) {
            for (int what = 0; what < 5; what++) {
                due(z.cell(c, what), y.cell(c, what));
            }
        }
        due(z.count(9), y.count(9));
        due(z.count(5), y.count(5));
        due(could > 5);
    }

    private static int next(int[] x, int modulo) {
        x[0] = 1103515245 * x[0] + 12345;
        return (x[0] >>> 16) % modulo;
    }

    private static boolean drawn(NapkinDeeds x, int[] draw) {
        int sort = next(draw, 4);
        if (sort < 2) {
            int line = 1 + next(draw, 5);
            return x.fold(line, next(draw, 4)) > 0;
        }
        if (sort == 2) {
            boolean can = x.count(5) > 0;
            if (can) {
                x.unfold();
            }
            return can;
        }
        int c = next(draw, 6);
        int mark = next(draw, 100);
        if (c < 3) {
            x.amend(c, 0, mark);
        }
        return c < 3;
    }

    private static void on() {
        NapkinDeeds six = told(times(6, "cell 0 back 1;"));
        promise = 23;
        int[] rows = {1, 20, 256, 2048, 9216, 16384};
        for (int n = 0; n <= 5; n++) {
            due(rows[n], six.rows(n));
        }
        refused(ARGUMENT, () -> six.rows(-1));
        refused(ARGUMENT, () -> six.rows(6));
        six.fold(3, 0);
        due(8, six.rows(1));
        six.unfold();
        due(20, six.rows(1));

        promise = 24;
        int[] looks = {1, 21, 69, 237, 745};
        due(1, told("").looks(5));
        due(5, told("cell 1 back 1;cell 1 back 1;").looks(5));
        due(21, told(STRIP).looks(2));
        due(69, told(STRIP + "cell 1 back 1;").looks(5));
        due(237, told(STRIP + "cell 1 back 1;cell 1 back 1;").looks(4));
        due(looks[4], six.looks(5));
        due(looks[1], six.looks(1));
        refused(ARGUMENT, () -> six.looks(-1));
        refused(ARGUMENT, () -> six.looks(6));

        promise = 25;
        NapkinDeeds x = told(STRIP + "holds:high=3 and top=3;");
        due(2, x.soonest(0));
        due(10, x.soonest(10));
        due(11, x.soonest(11));
        due(-1, x.soonest(12));
        for (int what : new int[] {-1, 1, 9, 15}) {
            refused(ARGUMENT, () -> x.soonest(what));
        }
        NapkinDeeds never = told(STRIP + "holds:high=4;");
        due(-1, never.soonest(0));
        due(-1, never.soonest(10));
        due(-1, told(STRIP).soonest(0));
        NapkinDeeds already = told(STRIP + "holds:folds=1;");
        due(1, already.soonest(0));
        due(10, already.soonest(10));
        already.fold(2, 3);
        due(0, already.soonest(0));
        due(-1, already.soonest(10));
        already.fold(1, 0);
        due(-1, already.soonest(0));

        promise = 26;
        NapkinDeeds h = told(STRIP + "holds:high=3 or folds=0;");
        due(1, h.holding(0));
        due(1, h.holding(1));
        due(13, h.holding(2));
        due(13, h.holding(5));
        refused(ARGUMENT, () -> h.holding(-1));
        refused(ARGUMENT, () -> h.holding(6));

        promise = 27;
        NapkinDeeds b = told(STRIP + "worth:top*10-under+wide;");
        due(39, b.best(0, 0));
        due(0, b.best(0, 1));
        due(-1, b.best(0, 10));
        due(164, b.best(5, 0));
        due(1, b.best(5, 1));
        due(20, b.best(5, 10));
        due(-1, b.best(5, 11));
        NapkinDeeds worse = told(STRIP + "worth:0-folds;");
        due(0, worse.best(5, 0));
        due(0, worse.best(5, 1));
        worse.fold(1, 0);
        due(-1, worse.best(5, 0));
        refused(ARGUMENT, () -> b.best(-1, 0));
        refused(ARGUMENT, () -> b.best(6, 0));
        refused(ARGUMENT, () -> b.best(0, 2));
        refused(ARGUMENT, () -> b.best(0, 9));
        refused(ARGUMENT, () -> b.best(0, 15));

        promise = 28;
        NapkinDeeds r = told(STRIP);
        fill(r, 0, 1, 2, 3);
        due(0, r.reads(0, 0));
        fill(r, 0, -1, 7);
        due(1, r.reads(0, 0));
        due(22, r.reads(0, 10));
        due(-1, r.reads(0, 11));
        fill(r, 0, -1);
        due(2, r.reads(0, 0));
        due(10, r.reads(0, 10));
        due(10, r.reads(0, 11));
        fill(r, 0, 1, 2, 3, -1);
        due(-1, r.reads(0, 0));
        due(-1, r.reads(0, 10));
        fill(r, 0, 1L << 32 | 1, 2, 3);
        due(-1, r.reads(0, 0));
        refused(ARGUMENT, () -> r.reads(0, 1));
        refused(ARGUMENT, () -> r.reads(0, 15));
        fill(r, 0);
        refused(ARGUMENT, () -> r.reads(0, 0));
        fill(r, 0, 1, 2, 3, 4, 5, 6, 7);
        refused(ARGUMENT, () -> r.reads(0, 0));
        fill(r, 0, -2);
        refused(ARGUMENT, () -> r.reads(0, 0));
        refused(NO_SUCH, () -> r.reads(4, 1));
        refused(STATE, () -> r.reads(1, 1));

        promise = 29;
        due(20, b.step());
        due(-1, worse.step());
        due(-1, told(STRIP).step());
        due(-1, told("worth:1;").step());
        due(10, told(STRIP + "worth:folds;").step());
    }

    /* What six cells come to by five folds alone. */
    private static void fiveFolds() {
        NapkinDeeds six = told(times(6, "cell 1 back 2;") + "holds:folds=5;worth:folds;");
        promise = 25;
        due(5, six.soonest(0));
        due(10, six.soonest(10));
        due(10, six.soonest(14));
        promise = 27;
        due(4, six.best(4, 0));
        due(5, six.best(5, 0));
        due(10, six.best(5, 14));
        promise = 32;
        fill(six, 0, 5, 3, 1, 0, 2, 4);
        due(5, six.stack(0));
        promise = 35;
        fill(six, 0, 2, 1, 2, 1, 2);
        int[] pleats = {10, 11, 10, 11, 10, -1};
        for (int k = 0; k < pleats.length; k++) {
            due(pleats[k], six.madeBy(0, k));
        }
        promise = 41;
        fill(six, 1, -1);
        due(256, six.seen(1, 3));
    }

    private static void stacksAndCreases() {
        NapkinDeeds four = told(STRIP + "cell 4 back 6;");
        promise = 30;
        fill(four, 0, 0, 1, 2, 3);
        due(four.stands(0));
        fill(four, 0, 0, 2, 1, 3);
        due(!four.stands(0));
        fill(four, 0, 1, 0, 2, 3);
        due(four.stands(0));
        fill(four, 0, 2, 0, 3, 1);
        due(!four.stands(0));
        fill(four, 0, 0, 1, 2);
        refused(ARGUMENT, () -> four.stands(0));
        fill(four, 0, 0, 1, 2, 2);
        refused(ARGUMENT, () -> four.stands(0));
        fill(four, 0, 0, 1, 2, 4);
        refused(ARGUMENT, () -> four.stands(0));
        fill(four, 0, 0, 1, 2, -1);
        refused(ARGUMENT, () -> four.stands(0));
        fill(four, 0, 0, 1, 2, (1L << 32) + 3);
        refused(ARGUMENT, () -> four.stands(0));
        refused(NO_SUCH, () -> four.stands(-1));
        refused(STATE, () -> four.stands(3));

        promise = 31;
        int[] stacks = {1, 1, 2, 6, 16, 50, 144};
        int[] patterns = {1, 1, 3, 9, 27, 77, 215};
        int[] simple = {1, 1, 2, 6, 16, 50, 144};
        for (int cells = 0; cells <= 6; cells++) {
            NapkinDeeds x = told(times(cells, "cell 5 back 5;"));
            promise = 31;
            due(stacks[cells], x.stacks());
            promise = 33;
            due(simple[cells], x.simple());
            promise = 36;
            due(patterns[cells], x.patterns());
            if (cells > 1) {
                x.fold(1, 1);
                due(patterns[cells], x.patterns());
            }
        }

        promise = 32;
        fill(four, 0, 3, 2, 1, 0);
        due(3, four.stack(0));
        fill(four, 0, 0, 3, 2, 1);
        due(2, four.stack(0));
        four.fold(1, 0);
        due(2, four.stack(0));
        fill(four, 0, 0, 2, 1, 3);
        due(-1, four.stack(0));
        fill(four, 0, 0, 0, 1, 3);
        refused(ARGUMENT, () -> four.stack(0));
        refused(NO_SUCH, () -> four.stack(4));
        refused(STATE, () -> four.stack(3));

        promise = 34;
        fill(four, 0, 0, 0, 0);
        due(1, four.made(0));
        fill(four, 0, 2, 0, 0);
        due(2, four.made(0));
        fill(four, 0, 2, 2);
        refused(ARGUMENT, () -> four.made(0));
        fill(four, 0, 2, 2, 3);
        refused(ARGUMENT, () -> four.made(0));
        fill(four, 0, 2, -1, 2);
        refused(ARGUMENT, () -> four.made(0));
        refused(NO_SUCH, () -> four.made(4));
        refused(STATE, () -> four.made(3));
        int all = 0;
        for (int i = 0; i < 27; i++) {
            fill(four, 0, i / 9, i / 3 % 3, i % 3);
            all += four.made(0);
        }
        due(1 + 12 + 80 + 256, all);
        NapkinDeeds one = told("cell 1 back 1;");
        fill(one, 0);
        due(1, one.made(0));

        promise = 35;
        fill(four, 0, 0, 1, 0);
        due(21, four.madeBy(0, 0));
        due(-1, four.madeBy(0, 1));
        due(-1, four.madeBy(0, Integer.MAX_VALUE));
        fill(four, 0, 0, 0, 0);
        due(-1, four.madeBy(0, 0));
        fill(four, 0, 2, 1, 2);
        due(32, four.made(0));
        due(10, four.madeBy(0, 0));
        due(11, four.madeBy(0, 1));
        due(10, four.madeBy(0, 2));
        due(-1, four.madeBy(0, 3));
        refused(ARGUMENT, () -> four.madeBy(0, -1));
        fill(four, 0, 2, 1, 5);
        refused(ARGUMENT, () -> four.madeBy(0, 0));
        refused(NO_SUCH, () -> four.madeBy(4, -1));
        refused(STATE, () -> four.madeBy(3, -1));
    }

    private static void guests() {
        String table = STRIP + "guest 2;guest 0;likes:want*high-folds;";
        promise = 37;
        NapkinDeeds x = told(table);
        due(0, x.refuse());
        x.fold(1, 0);
        due(2, x.refuse());
        x.amend(0, 0, 44);
        due(2, x.refuse());
        due(0, told(STRIP).refuse());
        x.shake();

        promise = 38;
        NapkinDeeds f = told(STRIP + "guest 1;guest 2;likes:high*want+guest*(0-folds)*2;");
        due(1, f.fairest(0, 0));
        due(2, f.fairest(5, 0));
        due(1, f.fairest(5, 1));
        due(10, f.fairest(5, 10));
        due(-1, f.fairest(5, 11));
        due(0, told(STRIP).fairest(5, 0));
        due(0, told(STRIP).fairest(5, 1));
        due(-1, told(STRIP).fairest(5, 10));
        refused(ARGUMENT, () -> f.fairest(-1, 0));
        refused(ARGUMENT, () -> f.fairest(6, 0));
        refused(ARGUMENT, () -> f.fairest(5, 2));
        refused(ARGUMENT, () -> f.fairest(5, 15));

        promise = 39;
        due(0, x.better(5));
        due(0, f.better(0));
        due(8, f.better(1));
        NapkinDeeds g = told(STRIP + "guest 1;likes:high;");
        due(20, g.better(5));
        g.fold(1, 0);
        due(4, g.better(5));
        due(0, told(STRIP).better(5));
        refused(ARGUMENT, () -> g.better(-1));
        refused(ARGUMENT, () -> g.better(6));

        promise = 40;
        due(0, x.keenest(5));
        NapkinDeeds k = told(STRIP + "guest 0;guest 3;guest 3;likes:want*high;");
        due(0, k.keenest(0));
        due(1, k.keenest(1));
        due(-1, told(STRIP).keenest(3));
        refused(ARGUMENT, () -> k.keenest(-1));
        refused(ARGUMENT, () -> k.keenest(6));
    }

    private static void seen() {
        NapkinDeeds x = told(STRIP);
        fill(x, 0, -1, -1);
        promise = 41;
        due(0, x.seen(0, 0));
        due(8, x.seen(0, 1));
        due(8, x.seen(0, 4));
        fill(x, 0, -1);
        due(32, x.seen(0, 4));
        fill(x, 0, 9, 3);
        due(1, x.seen(0, 4));
        x.fold(1, 2);
        due(1, x.seen(0, 4));
        x.amend(0, 1, 20);
        due(0, x.seen(0, 4));
        x.undo(2);
        fill(x, 0, 100);
        due(0, x.seen(0, 4));
        refused(ARGUMENT, () -> x.seen(0, -1));
        refused(ARGUMENT, () -> x.seen(0, 5));
        fill(x, 0);
        refused(ARGUMENT, () -> x.seen(0, 1));
        fill(x, 0, 1, 1, 1, 1, 1, 1, 1);
        refused(ARGUMENT, () -> x.seen(0, 1));
        fill(x, 0, -2);
        refused(ARGUMENT, () -> x.seen(0, 1));
        refused(NO_SUCH, () -> x.seen(4, 9));
        refused(STATE, () -> x.seen(1, 9));

        promise = 42;
        fill(x, 0, 9, 3);
        due(1, x.sure(0, 4));
        due(0, x.sure(0, 0));
        fill(x, 0, -1, -1);
        due(0, x.sure(0, 4));
        fill(x, 0, -1);
        due(3, x.sure(0, 4));
        fill(x, 0, -1, -1, -1);
        due(0, x.sure(0, 4));
        refused(ARGUMENT, () -> x.sure(0, 5));
        fill(x, 0);
        refused(ARGUMENT, () -> x.sure(0, 1));
        refused(NO_SUCH, () -> x.sure(4, 9));
        refused(STATE, () -> x.sure(1, 9));

        promise = 43;
        NapkinDeeds y = told("cell 1 back 5;cell 1 back 5;cell 1 back 6;");
        fill(y, 0, -1, 1);
        due(lookByHand(y), y.look(0, 1));
        fill(y, 0, 50);
        due(-1, y.look(0, 4));
        refused(ARGUMENT, () -> y.look(0, -1));
        refused(ARGUMENT, () -> y.look(0, 5));
        fill(y, 0, -3);
        refused(ARGUMENT, () -> y.look(0, 1));
        refused(NO_SUCH, () -> y.look(4, 9));
        refused(STATE, () -> y.look(1, 9));
    }

    /* Of the folds of three cells that leave the mark 1 at the right of two columns. */
    private static int lookByHand(NapkinDeeds y) {
        int[][] groups = new int[2][100];
        for (int line = 1; line <= 2; line++) {
            for (int way = 0; way < 4; way++) {
                y.fold(line, way);
                if (y.above(1) == 1) {
                    groups[0][y.beneath(0)]++;
                    groups[1][y.beneath(1)]++;
                }
                y.undo(1);
            }
        }
        int[] greatest = new int[2];
        for (int mark = 0; mark < 100; mark++) {
            greatest[0] = Math.max(greatest[0], groups[0][mark]);
            greatest[1] = Math.max(greatest[1], groups[1][mark]);
        }
        return greatest[1] < greatest[0] ? 1 : 0;
    }

    private static void traysAndImages() {
        NapkinDeeds x = told(STRIP);
        promise = 44;
        x.tray(0, 0, 30);
        x.tray(3, 3, 0);
        refused(NO_SUCH, () -> x.tray(-1, 9, 9));
        refused(NO_SUCH, () -> x.tray(4, 9, 9));
        refused(ARGUMENT, () -> x.tray(0, -1, 1));
        refused(ARGUMENT, () -> x.tray(0, 4, 1));
        refused(ARGUMENT, () -> x.tray(0, 0, -1));
        refused(ARGUMENT, () -> x.tray(0, 0, 31));
        due(29, x.write(0, 29, 29));
        fill(x, 1, 0, 0, 0);
        x.write(1, 0, 77);
        x.tray(1, 3, 3);
        fill(x, 2, 0, 0);
        due(0, x.judge(2, 0));
        due(1, x.made(2));

        promise = 45;
        long v = 0x123456789ABCDEF0L;
        x.tray(0, 0, 2);
        due(-16, x.write(0, 1, v));
        due(127, x.write(0, 1, 127));
        due(-128, x.write(0, 1, 128));
        x.tray(0, 1, 2);
        due((short) 0xDEF0, x.write(0, 1, v));
        x.tray(0, 2, 2);
        due(0x9ABCDEF0, x.write(0, 1, v));
        x.tray(0, 3, 2);
        due(v, x.write(0, 1, v));
        refused(INDEX, () -> x.write(0, 2, 0));
        refused(INDEX, () -> x.write(0, -1, 0));
        refused(INDEX, () -> x.write(3, 0, 0));
        refused(NO_SUCH, () -> x.write(4, 0, 0));
        refused(STATE, () -> new NapkinDeeds().write(0, 99, 0));

        promise = 46;
        x.tray(0, 0, 2);
        due(2, x.copy(0));
        due(1, x.reads(0, 0));
        due(23, x.reads(0, 10));
        x.tray(0, 0, 3);
        due(3, x.copy(0));
        due(0, x.reads(0, 0));
        fill(x, 0, 7, 7, 7, 10);
        due(3, x.copy(0));
        due(0, x.judge(0, 0));
        refused(NO_SUCH, () -> x.copy(4));
        refused(STATE, () -> new NapkinDeeds().copy(0));
        fill(x, 0);
        due(0, x.copy(0));

        promise = 47;
        x.fold(1, 0);
        x.amend(2, 0, 90);
        x.image(2);
        refused(NO_SUCH, () -> x.image(-1));
        refused(NO_SUCH, () -> x.image(3));

        promise = 48;
        refused(STATE, () -> x.restore(0));
        refused(NO_SUCH, () -> x.restore(-1));
        refused(NO_SUCH, () -> x.restore(3));
        x.undo(2);
        due(8, tell(x, STRIP + "guest 1;worth:9;holds:1=1;likes:8;cell 5 back 5;"));
        x.fold(1, 0);
        due(-12, tell(x, "cell"));
        x.feed(0, 0, 0, 0, 0);
        x.restore(2);
        due(3, x.count(0));
        due(3, x.count(1));
        due(0, x.count(2));
        due(0, x.worth());
        due(!x.holds());
        due(10, x.folded(0));
        due(90, x.cell(2, 0));
        due(2, x.count(9));
        due(20, x.count(10));
        due(2, x.fault(0));
        due(0, x.undo(2));
        due(3, x.cell(2, 0));
        x.restore(2);
        due(90, x.cell(2, 0));

        promise = 49;
        NapkinDeeds y = told(STRIP + "guest 4;");
        y.fold(1, 0);
        y.feed(0, 0, 0, 0, 0);
        int[] counts = {4, 3, 1, 2, 2, 1, 12, 15, 3, 1, 20};
        for (int what = 0; what < counts.length; what++) {
            due(counts[what], y.count(what));
        }
        due(-1, y.count(-1));
        due(-1, y.count(11));
    }
}
