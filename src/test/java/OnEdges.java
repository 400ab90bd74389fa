import java.util.ArrayList;
import java.util.Arrays;
import java.util.HashSet;
import java.util.List;
import java.util.Set;

/** Edges of what can come by folds more: promises 23 to 29. */
final class OnEdges extends Edges {
    private static final int[] NOT_SO_MANY_FOLDS = {-1, 6, 10, LEAST, MOST};
    private static final int[] NO_QUESTION_OF_A_ROW = {-1, 1, 2, 9, 15, LEAST, MOST};
    private static final int[] NO_QUESTION_OF_THE_GREATEST = {-1, 2, 9, 15, LEAST, MOST};

    /** How many rows of n folds there are from so many columns: a fold at line i leaves the longer side. */
    private static int rows(int columns, int n) {
        int rows = n == 0 ? 1 : 0;
        for (int line = 1; line < columns && n > 0; line++) {
            rows += 4 * rows(Math.max(line, columns - line), n - 1);
        }
        return rows;
    }

    /** All rows of n folds at most, shorter ones first, those of one length one behind the other. */
    private static List<int[]> allRows(int columns, int n) {
        List<int[]> all = new ArrayList<>();
        for (int length = 0; length <= n; length++) {
            addRows(all, new int[length], 0, columns);
        }
        return all;
    }

    private static void addRows(List<int[]> all, int[] row, int begun, int columns) {
        if (begun == row.length) {
            all.add(row.clone());
        }
        for (int line = 1; line < columns && begun < row.length; line++) {
            for (int way = 0; way < 4; way++) {
                row[begun] = 10 * line + way;
                addRows(all, row, begun + 1, Math.max(line, columns - line));
            }
        }
    }

    // ---- promise 23

    @Says(promise = 23, value = "How many rows of just n FOLDS there are.")
    static void rowsOfJustSoManyFolds() {
        for (int cells = 0; cells <= 6; cells++) {
            NapkinDeeds x = strip(cells);
            for (int n = 0; n <= 5; n++) {
                due(rows(cells, n), x.rows(n));
            }
        }
        due(16384, strip(6).rows(5));
    }

    @Says(promise = TERMS, value = "how it can lie by n FOLDS more (0 to 5) at most, told as rows of FOLDS")
    static void rowsFromWhereItLies() {
        for (int line = 1; line <= 5; line++) {
            NapkinDeeds x = folded(strip(6), 10 * line);
            int columns = Math.max(line, 6 - line);
            for (int n = 0; n <= 5; n++) {
                due(rows(columns, n), x.rows(n));
            }
        }
        NapkinDeeds all = folded(strip(6), 10, 10, 10, 10, 10);
        due(1, all.rows(0));
        due(0, all.rows(1));
        all.unfold();
        due(4, all.rows(1));
        all.undo(1);
        due(0, all.rows(1));
    }

    @Says(promise = 23, value = "IllegalArgumentException: n (as everywhere).")
    static void notSoManyFolds() {
        for (int n : NOT_SO_MANY_FOLDS) {
            refused(ARGUMENT, x -> x.rows(n));
            refused(ARGUMENT, NapkinDeeds::new, x -> x.rows(n));
        }
    }

    @Says(promise = TERMS, value = "how it can lie by n FOLDS more (0 to 5) at most, told as rows of FOLDS")
    static void nothingIsLeftOfAnEarlierSearch() {
        String more = "guest 3;guest 4;worth:top-under*high;holds:high=wide;likes:want*top-guest*under*high;";
        NapkinDeeds used = strip(6, more);
        for (int[] row : new int[][] {{53, 31, 21, 10}, {30, 20, 10}}) {
            due(Probe.searches(strip(6, more)), Probe.searches(used));
            for (int many = 1; many <= row.length; many++) {
                int[] begun = Arrays.copyOf(row, many);
                folded(used, row[many - 1]);
                due(Probe.searches(folded(strip(6, more), begun)), Probe.searches(used));
            }
            used.shake();
        }
        for (int cells = 5; cells >= 0; cells--) {
            NapkinDeeds anew = strip(cells, more);
            tell(used, cells(cells) + more);
            due(Probe.searches(anew), Probe.searches(used));
            due(Probe.searches(anew), Probe.searches(used));
        }
    }

    // ---- promise 24

    @Says(promise = 24, value = "How many unlike LOOKS there are by n FOLDS at most (this one too).")
    static void unlikeLooks() {
        for (int cells = 0; cells <= 4; cells++) {
            NapkinDeeds x = strip(cells);
            for (int n = 0; n <= 5; n++) {
                Set<String> looks = new HashSet<>();
                for (int[] row : allRows(cells, n)) {
                    looks.add(lies(folded(strip(cells), row)));
                }
                due(looks.size(), x.looks(n));
            }
        }
        due(745, strip(6).looks(5));
        due(1, folded(strip(6), 10, 10, 10, 10, 10).looks(5));
        due(5, folded(strip(4), 20).looks(1));
    }

    @Says(promise = TERMS, value = "A LOOK: which CELLS lie where, in which order, which face up; two rows of FOLDS may give one LOOK")
    static void marksAreNoPartOfALook() {
        due(5, told("cell 1 back 1;cell 1 back 1;").looks(1));
        due(21, told("cell 0 back 0;cell 0 back 0;cell 0 back 0;").looks(2));
    }

    @Says(promise = 24, value = "throws IllegalArgumentException")
    static void notSoManyFoldsToLook() {
        for (int n : NOT_SO_MANY_FOLDS) {
            refused(ARGUMENT, x -> x.looks(n));
        }
    }

    // ---- promise 25

    @Says(promise = 25, value = "The fewest FOLDS till it HOLDS, what 0: how many, 10 + k: the k-th (NONE: not so many); NONE: never.")
    static void theFewestFolds() {
        NapkinDeeds five = strip(6, "holds:folds=5;");
        due(5, five.soonest(0));
        for (int what = 10; what <= 14; what++) {
            due(10, five.soonest(what));
        }
        NapkinDeeds two = strip(3, "holds:high=3;");
        due(2, two.soonest(0));
        due(10, two.soonest(10));
        due(10, two.soonest(11));
        due(-1, two.soonest(12));
        due(-1, two.soonest(14));
        NapkinDeeds never = strip(6, "holds:folds=6;");
        due(-1, never.soonest(0));
        due(-1, never.soonest(10));
        due(-1, never.soonest(14));
    }

    @Says(promise = 25, value = "The fewest FOLDS till it HOLDS, what 0: how many")
    static void itHoldsAlready() {
        NapkinDeeds x = strip(6, "holds:1=1;");
        due(0, x.soonest(0));
        due(-1, x.soonest(10));
        NapkinDeeds none = told("holds:wide=0;");
        due(0, none.soonest(0));
        due(-1, none.soonest(10));
        NapkinDeeds all = folded(strip(6, "holds:wide=1;"), 10, 10, 10, 10, 10);
        due(0, all.soonest(0));
    }

    @Says(promise = TERMS, value = "of like ones the fewest FOLDS, then the first, one behind the other.")
    static void theFewestThenTheFirst() {
        NapkinDeeds byFirst = told(STRIP + "holds:high=3 and[top=7 and under=8 or top=1 and under=7];");
        due("1 0' 2'", lies(folded(strip(3), 10, 12)));
        due("2 1' 0", lies(folded(strip(3), 11, 10)));
        due(2, byFirst.soonest(0));
        due(10, byFirst.soonest(10));
        due(12, byFirst.soonest(11));
        NapkinDeeds byFewest = strip(4, "holds:high=4 and top=20 and under=21;");
        due("1 2' 3 0'", lies(folded(strip(4), 20, 11)));
        due("1 2' 3 0'", lies(folded(strip(4), 33, 22, 10)));
        due("1 3 2' 0'", lies(folded(strip(4), 32, 22, 10)));
        due(2, byFewest.soonest(0));
        due(20, byFewest.soonest(10));
        due(11, byFewest.soonest(11));
        due(-1, byFewest.soonest(12));
    }

    @Says(promise = TERMS, value = "(FOLDS that are there stay; folds in laws counts them too.)")
    static void foldsThatAreThereCountToo() {
        NapkinDeeds x = folded(strip(6, "holds:folds=2;worth:0-(folds-3)*(folds-3);"), 53);
        due(1, x.soonest(0));
        due(10, x.soonest(10));
        due(-1, x.soonest(11));
        due(2, x.best(5, 1));
        due(16, x.holding(1));
        due(0, x.best(5, 0));
        due(10, x.step());
        folded(x, 10);
        due(0, x.soonest(0));
        folded(x, 10);
        due(-1, x.soonest(0));
        due(-1, x.step());
        due(0, x.best(5, 1));
    }

    @Says(promise = 25, value = "IllegalArgumentException: another what (10 to 14).")
    static void anotherQuestionOfTheSoonest() {
        for (int what : NO_QUESTION_OF_A_ROW) {
            refused(ARGUMENT, x -> x.soonest(what));
            refused(ARGUMENT, NapkinDeeds::new, x -> x.soonest(what));
        }
    }

    // ---- promise 26

    @Says(promise = 26, value = "In how many unlike LOOKS by n FOLDS at most it HOLDS.")
    static void looksInWhichItHolds() {
        NapkinDeeds x = strip(3, "holds:high=3;");
        due(0, x.holding(0));
        due(0, x.holding(1));
        due(12, x.holding(2));
        due(12, x.holding(5));
        NapkinDeeds always = strip(3, "holds:1=1;");
        due(1, always.holding(0));
        due(9, always.holding(1));
        due(21, always.holding(2));
        due(21, always.holding(5));
        due(0, strip(3).holding(5));
        due(1, told("holds:1=1;").holding(5));
    }

    @Says(promise = TERMS, value = "what is asked of a LOOK is so, if it is by one of these rows.")
    static void aLookByRowsOfUnlikeLength() {
        String so = "holds:high=4 and top=20 and under=21 and ";
        due(1, strip(4, so + "folds=2;").holding(3));
        due(2, strip(4, so + "folds=3;").holding(3));
        due(2, strip(4, so + "[folds=2 or folds=3];").holding(3));
        due(0, strip(4, so + "folds=3;").holding(2));
        NapkinDeeds x = strip(4, "guest 1;likes:folds*(folds-1)*(folds-2);");
        Set<String> byThree = new HashSet<>();
        for (int[] row : allRows(4, 3)) {
            if (row.length == 3) {
                byThree.add(lies(folded(strip(4), row)));
            }
        }
        due(byThree.size(), x.better(3));
        due(0, x.better(2));
    }

    @Says(promise = 26, value = "throws IllegalArgumentException")
    static void notSoManyFoldsToHold() {
        for (int n : NOT_SO_MANY_FOLDS) {
            refused(ARGUMENT, x -> x.holding(n));
        }
    }

    // ---- promise 27

    @Says(promise = 27, value = "The greatest WORTH by n FOLDS at most, what 0: it, 1: how many FOLDS, 10 + k: the k-th (NONE: not so many).")
    static void theGreatestWorth() {
        NapkinDeeds x = strip(6, "worth:folds;");
        for (int n = 0; n <= 5; n++) {
            due(n, x.best(n, 0));
            due(n, x.best(n, 1));
            for (int k = 0; k <= 4; k++) {
                due(k < n ? 10 : -1, x.best(n, 10 + k));
            }
        }
        due(-1, strip(6, "worth:0-wide;").best(5, 0));
        due(-6, strip(6, "worth:0-wide;").best(0, 0));
        due(1000000, strip(6, "worth:folds*999*999;").best(5, 0));
        due(2, strip(6, "worth:folds*999*999;").best(5, 1));
    }

    @Says(promise = TERMS, value = "of like ones the fewest FOLDS, then the first")
    static void amongLikeWorths() {
        NapkinDeeds none = strip(6);
        due(0, none.best(5, 0));
        due(0, none.best(5, 1));
        due(-1, none.best(5, 10));
        NapkinDeeds x = told(STRIP + "worth:0-(wide-2)*(wide-2);");
        due(0, x.best(5, 0));
        due(1, x.best(5, 1));
        due(10, x.best(5, 10));
        NapkinDeeds y = strip(2, "worth:top;");
        due(21, y.best(0, 0));
        due(21, y.best(1, 0));
        due(0, y.best(1, 1));
        NapkinDeeds z = told("cell 1 back 50;cell 2 back 50;worth:top;");
        due(50, z.best(1, 0));
        due(10, z.best(1, 10));
        due(0, new NapkinDeeds().best(5, 1));
    }

    @Says(promise = 27, value = "IllegalArgumentException: n, another what (10 to 14).")
    static void anotherQuestionOfTheBest() {
        for (int n : NOT_SO_MANY_FOLDS) {
            refused(ARGUMENT, x -> x.best(n, 0));
            refused(ARGUMENT, x -> x.best(n, 15));
        }
        for (int what : NO_QUESTION_OF_THE_GREATEST) {
            refused(ARGUMENT, x -> x.best(0, what));
            refused(ARGUMENT, x -> x.best(5, what));
        }
    }

    // ---- promise 28

    @Says(promise = 28, value = "The fewest FOLDS till MARKS in a TRAY (1 to 6 numbers; NONE: any) are read ABOVE, from left to right, no more, no fewer, what as in soonest().")
    static void marksThatAreRead() {
        NapkinDeeds x = strip(6);
        fill(x, 0, 10, 11, 12, 13, 14, 15);
        due(0, x.reads(0, 0));
        due(-1, x.reads(0, 10));
        fill(x, 0, -1, -1, -1, -1, -1, -1);
        due(0, x.reads(0, 0));
        fill(x, 0, 10, 11, 12, 13, 15);
        due(-1, x.reads(0, 0));
        due(-1, x.reads(0, 10));
        fill(x, 0, 10, 11, 12, 13, 14);
        due(53, x.reads(0, 10));
        fill(x, 0, 10, 11, 12, 13, 25);
        due(1, x.reads(0, 0));
        due(52, x.reads(0, 10));
        due(-1, x.reads(0, 11));
        fill(x, 0, -1);
        due(3, x.reads(0, 0));
        due(20, x.reads(0, 10));
        due(20, x.reads(0, 11));
        due(10, x.reads(0, 12));
        due(-1, x.reads(0, 14));
    }

    @Says(promise = 28, value = "no more, no fewer")
    static void asManyColumnsAsMarks() {
        NapkinDeeds x = strip(2);
        fill(x, 0, 10);
        due(1, x.reads(0, 0));
        due(13, x.reads(0, 10));
        fill(x, 0, 10, 11, -1);
        due(-1, x.reads(0, 0));
        fill(x, 0, 10, -1);
        due(0, x.reads(0, 0));
        NapkinDeeds none = filled(new NapkinDeeds(), -1);
        due(-1, none.reads(0, 0));
        due(-1, none.reads(0, 14));
    }

    @Says(promise = 28, value = "IllegalArgumentException: not so many, one is below NONE; another what.")
    static void marksThatCannotBeRead() {
        refused(ARGUMENT, () -> filled(strip(3)), x -> x.reads(0, 0));
        refused(ARGUMENT, () -> filled(strip(6), 1, 1, 1, 1, 1, 1, 1), x -> x.reads(0, 0));
        refused(ARGUMENT, () -> filled(strip(6), new long[30]), x -> x.reads(0, 0));
        refused(ARGUMENT, () -> filled(strip(3), -2), x -> x.reads(0, 0));
        refused(ARGUMENT, () -> filled(strip(3), -1, -1, Long.MIN_VALUE), x -> x.reads(0, 0));
        for (int what : NO_QUESTION_OF_A_ROW) {
            refused(ARGUMENT, x -> x.reads(1, what));
        }
    }

    @Says(promise = TERMS, value = "8 bits (sort 0), 16 (1), 32 (2), 64 (3)")
    static void noMarkIsSoGreat() {
        for (long mark : new long[] {100, 1L << 32 | 10, Long.MAX_VALUE}) {
            NapkinDeeds x = filled(strip(1), mark);
            due(-1, x.reads(0, 0));
            due(0, x.seen(0, 4));
        }
        due(0, filled(strip(1), 10).reads(0, 0));
    }

    @Says(promise = 28, value = "throws NoSuchElementException, IllegalStateException, IllegalArgumentException")
    static void noTrayToRead() {
        for (int tray : new int[] {-1, 4, LEAST, MOST}) {
            refused(NO_SUCH, x -> x.reads(tray, 0));
            refused(NO_SUCH, x -> x.reads(tray, 1));
        }
        refused(STATE, x -> x.reads(3, 0));
        refused(STATE, x -> x.reads(3, 15));
    }

    // ---- promise 29

    @Says(promise = 29, value = "The first FOLD by which one FOLD makes WORTH greatest, if greater than now; NONE: none does.")
    static void theStepThatMakesWorthGreatest() {
        due(-1, new NapkinDeeds().step());
        due(-1, strip(1, "worth:folds;").step());
        due(-1, strip(6).step());
        due(-1, strip(6, "worth:7;").step());
        due(-1, strip(6, "worth:wide;").step());
        due(10, strip(6, "worth:folds;").step());
        due(30, strip(6, "worth:0-wide;").step());
        due(-1, folded(strip(6, "worth:folds;"), 10, 10, 10, 10, 10).step());
        due(20, told(STRIP + "worth:top*10-under+wide;").step());
        due(31, strip(6, "worth:0-under;").step());
    }

    @Says(promise = 29, value = "if greater than now")
    static void oneFoldAlone() {
        NapkinDeeds x = strip(3, "worth:(folds-1)*(folds-1);");
        due(-1, x.step());
        due(1, x.best(2, 0));
        due(0, x.best(2, 1));
        NapkinDeeds y = strip(3, "worth:folds*(folds-1);");
        due(-1, y.step());
        due(2, y.best(2, 1));
    }
}
