/** Edges of stacks and creases: promises 30 to 36. */
final class StackEdges extends Edges {
    private static NapkinDeeds stack(int... cells) {
        NapkinDeeds x = strip(cells.length);
        x.tray(0, 0, cells.length);
        for (int i = 0; i < cells.length; i++) {
            x.write(0, i, cells[i]);
        }
        return x;
    }

    private static int made(int... creases) {
        return madeOf(creases).made(0);
    }

    private static NapkinDeeds madeOf(int... creases) {
        NapkinDeeds x = strip(creases.length + 1);
        x.tray(0, 0, creases.length);
        for (int i = 0; i < creases.length; i++) {
            x.write(0, i, creases[i]);
        }
        return x;
    }

    private static String firstRow(NapkinDeeds x) {
        StringBuilder row = new StringBuilder();
        for (int k = 0; k <= 5; k++) {
            row.append(x.madeBy(0, k)).append(' ');
        }
        return row.toString().trim();
    }

    // ---- promise 30

    @Says(promise = TERMS, value = "of any two CREASES k and l on one side (k and l both odd, or both even) their CELLS' two places don't cross (one lies between, the other not).")
    static void creasesOnOneSideDoNotCross() {
        dueFalse(stack(0, 2, 1, 3).stands(0));
        dueFalse(stack(3, 1, 2, 0).stands(0));
        dueFalse(stack(2, 0, 3, 1).stands(0));
        dueFalse(stack(1, 3, 0, 2).stands(0));
        dueTrue(stack(0, 2, 3, 1).stands(0));
        dueTrue(stack(2, 0, 1, 3).stands(0));
        dueTrue(stack(1, 0, 3, 2).stands(0));
        dueFalse(stack(0, 1, 3, 2, 4).stands(0));
        dueFalse(stack(1, 3, 2, 4, 0).stands(0));
    }

    @Says(promise = TERMS, value = "(k and l both odd, or both even)")
    static void creasesOnTwoSidesMayCross() {
        dueTrue(stack(0, 3, 2, 1, 4).stands(0));
        dueTrue(stack(1, 0, 2).stands(0));
        dueTrue(stack(0, 2, 1).stands(0));
    }

    @Says(promise = TERMS, value = "of any two CREASES k and l on one side")
    static void theFirstAndTheLastCrease() {
        dueFalse(stack(0, 4, 1, 5, 2, 3).stands(0));
        dueTrue(stack(0, 1, 2, 3, 4, 5).stands(0));
        dueTrue(stack(5, 4, 3, 2, 1, 0).stands(0));
        dueFalse(stack(4, 0, 5, 1, 2, 3).stands(0));
    }

    @Says(promise = 30, value = "Whether a STACK STANDS.")
    static void theLeastStacks() {
        dueTrue(stack().stands(0));
        dueTrue(stack(0).stands(0));
        dueTrue(stack(0, 1).stands(0));
        dueTrue(stack(1, 0).stands(0));
    }

    @Says(promise = 30, value = "IllegalArgumentException: not each CELL once.")
    static void notEachCellOnce() {
        notAStack((x, tray) -> x.stands(tray));
    }

    private interface Asked {
        void on(NapkinDeeds x, int tray);
    }

    private static void notAStack(Asked asked) {
        long[][] rows = {{}, {0, 1}, {0, 1, 2, 3}, {0, 1, 1}, {2, 1, 2}, {0, 1, 3}, {0, -1, 2}, {0, 1, 1L << 32 | 2},
            {0, 0, 0}, {3, 0, 1}, {-1, 0, 1}, {Long.MIN_VALUE, 1, 2}, {0, 1, Long.MAX_VALUE}, {0, 1, 2, 0}};
        for (long[] row : rows) {
            refused(ARGUMENT, () -> filled(strip(3), row), x -> asked.on(x, 0));
        }
        refused(ARGUMENT, () -> filled(new NapkinDeeds(), 0), x -> asked.on(x, 0));
        refused(ARGUMENT, () -> filled(strip(1)), x -> asked.on(x, 0));
        refused(ARGUMENT, () -> filled(strip(6), 0, 1, 2, 3, 4), x -> asked.on(x, 0));
        refused(ARGUMENT, () -> filled(strip(6), 0, 1, 2, 3, 4, 6), x -> asked.on(x, 0));
        refused(ARGUMENT, () -> filled(strip(6), new long[30]), x -> asked.on(x, 0));
    }

    private static void noTray(Asked asked) {
        for (int tray : new int[] {-1, 4, LEAST, MOST}) {
            refused(NO_SUCH, x -> asked.on(x, tray));
        }
        refused(STATE, x -> asked.on(x, 3));
        refused(STATE, NapkinDeeds::new, x -> asked.on(x, 0));
    }

    @Says(promise = 30, value = "throws NoSuchElementException, IllegalStateException, IllegalArgumentException")
    static void noTrayThatStands() {
        noTray((x, tray) -> x.stands(tray));
    }

    @Says(promise = 30, value = "Whether a STACK STANDS.")
    static void stacksOneAfterAnother() {
        NapkinDeeds x = stack(3, 1, 2, 0);
        dueFalse(x.stands(0));
        fill(x, 0, 0, 2, 3, 1);
        dueTrue(x.stands(0));
        x.stacks();
        fill(x, 0, 2, 0, 3, 1);
        dueFalse(x.stands(0));
        x.stacks();
        fill(x, 0, 3, 2, 1, 0);
        dueTrue(x.stands(0));
    }

    // ---- promise 31

    @Says(promise = 31, value = "How many STACKS STAND (upside down is another one; without CELLS 1, as below).")
    static void howManyStacksStand() {
        int[] stacks = {1, 1, 2, 6, 16, 50, 144};
        for (int cells = 0; cells <= 6; cells++) {
            due(stacks[cells], strip(cells).stacks());
        }
        due(16, folded(strip(4), 10, 10).stacks());
    }

    // ---- promise 32

    @Says(promise = 32, value = "The fewest FOLDS from FLAT to a STACK, whichever faces are up; NONE: not by FOLDS.")
    static void theFewestFoldsToAStack() {
        due(0, stack().stack(0));
        due(0, stack(0).stack(0));
        due(1, stack(0, 1).stack(0));
        due(1, stack(1, 0).stack(0));
        due(2, stack(0, 1, 2).stack(0));
        due(2, stack(3, 0, 1, 2).stack(0));
        due(2, stack(2, 1, 0, 3).stack(0));
        due(3, stack(0, 1, 2, 3).stack(0));
        due(5, stack(5, 3, 1, 0, 2, 4).stack(0));
        due(-1, stack(0, 2, 1, 3).stack(0));
    }

    @Says(promise = TERMS, value = "By FOLDS: from FLAT.")
    static void stacksAreFromFlat() {
        NapkinDeeds x = stack(0, 1);
        folded(x, 10);
        due(1, x.stack(0));
        due(2, x.simple());
        due(3, x.patterns());
        fill(x, 1, 0);
        due(1, x.made(1));
        due(-1, x.madeBy(1, 0));
        NapkinDeeds y = folded(stack(0, 1, 2, 3), 20, 10);
        due(3, y.stack(0));
        due(16, y.simple());
        due(27, y.patterns());
    }

    @Says(promise = 32, value = "IllegalArgumentException: as stands().")
    static void notAStackToFold() {
        notAStack((x, tray) -> x.stack(tray));
    }

    @Says(promise = 32, value = "throws NoSuchElementException, IllegalStateException, IllegalArgumentException")
    static void noTrayWithAStack() {
        noTray((x, tray) -> x.stack(tray));
    }

    // ---- promise 33

    @Says(promise = 33, value = "How many STACKS come by FOLDS from FLAT.")
    static void howManyStacksComeByFolds() {
        for (int cells = 0; cells <= 4; cells++) {
            int[] order = new int[cells];
            due(stacksByFolds(order, 0), strip(cells).simple());
        }
        due(144, strip(6).simple());
    }

    /** Counts the orders of all cells that stack() finds. */
    private static int stacksByFolds(int[] order, int begun) {
        if (begun == order.length) {
            return stack(order).stack(0) >= 0 ? 1 : 0;
        }
        int found = 0;
        for (int c = 0; c < order.length; c++) {
            boolean free = true;
            for (int i = 0; i < begun; i++) {
                free = free && order[i] != c;
            }
            if (free) {
                order[begun] = c;
                found += stacksByFolds(order, begun + 1);
            }
        }
        return found;
    }

    // ---- promise 34

    @Says(promise = TERMS, value = "MADE: rows of FOLDS from FLAT that give just such CREASES as in a TRAY (as many numbers as CREASES, 0 to 2).")
    static void rowsThatMakeCreases() {
        due(1, filled(new NapkinDeeds()).made(0));
        due(1, made());
        due(1, made(0));
        due(2, made(1));
        due(2, made(2));
        due(1, made(0, 0));
        due(2, made(2, 0));
        due(2, made(0, 1));
        due(8, made(1, 1));
        due(1, made(0, 0, 0, 0, 0));
        int all = 0;
        for (int i = 0; i < 9; i++) {
            all += made(i / 3, i % 3);
        }
        due(1 + 8 + 32, all);
    }

    @Says(promise = 34, value = "IllegalArgumentException: not as many numbers, one isn't 0 to 2.")
    static void notCreases() {
        notAllCreases((x, tray) -> x.made(tray));
    }

    private static void notAllCreases(Asked asked) {
        long[][] rows = {{}, {0}, {0, 0, 0}, {0, 3}, {3, 0}, {-1, 0}, {0, -1}, {0, 1L << 32}, {Long.MIN_VALUE, 0}, {0, Long.MAX_VALUE}};
        for (long[] row : rows) {
            refused(ARGUMENT, () -> filled(strip(3), row), x -> asked.on(x, 0));
        }
        refused(ARGUMENT, () -> filled(new NapkinDeeds(), 0), x -> asked.on(x, 0));
        refused(ARGUMENT, () -> filled(strip(1), 0), x -> asked.on(x, 0));
        refused(ARGUMENT, () -> filled(strip(6), 0, 0, 0, 0, 0, 0), x -> asked.on(x, 0));
        refused(ARGUMENT, () -> filled(strip(6), new long[30]), x -> asked.on(x, 0));
    }

    @Says(promise = 34, value = "throws NoSuchElementException, IllegalStateException, IllegalArgumentException")
    static void noTrayWithCreases() {
        noTray((x, tray) -> x.made(tray));
    }

    // ---- promise 35

    @Says(promise = 35, value = "The k-th FOLD of the first of these (the fewest, then the first); NONE: not so many, there is none.")
    static void theFirstRowThatMakesCreases() {
        due("-1 -1 -1 -1 -1 -1", firstRow(madeOf()));
        due("-1 -1 -1 -1 -1 -1", firstRow(madeOf(0)));
        due("10 -1 -1 -1 -1 -1", firstRow(madeOf(2)));
        due("11 -1 -1 -1 -1 -1", firstRow(madeOf(1)));
        due("20 -1 -1 -1 -1 -1", firstRow(madeOf(0, 2)));
        due("20 11 -1 -1 -1 -1", firstRow(madeOf(2, 2, 1)));
        due("20 10 -1 -1 -1 -1", firstRow(madeOf(1, 2, 2)));
        due("10 11 10 11 10 -1", firstRow(madeOf(2, 1, 2, 1, 2)));
        due(-1, madeOf(2).madeBy(0, MOST));
    }

    @Says(promise = 35, value = "NONE: not so many, there is none.")
    static void noRowMakesThem() {
        int none = 0;
        for (int i = 0; i < 243; i++) {
            int[] creases = {i / 81, i / 27 % 3, i / 9 % 3, i / 3 % 3, i % 3};
            if (made(creases) == 0) {
                due("-1 -1 -1 -1 -1 -1", firstRow(madeOf(creases)));
                none++;
            }
        }
        due(243 - 215, none);
    }

    @Says(promise = 35, value = "IllegalArgumentException: as made(), k is below 0.")
    static void aFoldBeforeTheFirstOfTheRow() {
        notAllCreases((x, tray) -> x.madeBy(tray, 0));
        refused(ARGUMENT, () -> madeOf(2), x -> x.madeBy(0, -1));
        refused(ARGUMENT, () -> madeOf(2), x -> x.madeBy(0, LEAST));
        refused(ARGUMENT, () -> madeOf(3), x -> x.madeBy(0, -1));
    }

    @Says(promise = 35, value = "throws NoSuchElementException, IllegalStateException, IllegalArgumentException")
    static void noTrayWithCreasesToMake() {
        noTray((x, tray) -> x.madeBy(tray, 0));
        noTray((x, tray) -> x.madeBy(tray, -1));
    }

    // ---- promise 36

    @Says(promise = 36, value = "How many unlike rows of CREASES come by FOLDS from FLAT.")
    static void unlikeRowsOfCreases() {
        int[] patterns = {1, 1, 3, 9, 27, 77, 215};
        for (int cells = 0; cells <= 6; cells++) {
            due(patterns[cells], strip(cells).patterns());
        }
        int found = 0;
        for (int i = 0; i < 81; i++) {
            found += made(i / 27, i / 9 % 3, i / 3 % 3, i % 3) > 0 ? 1 : 0;
        }
        due(77, found);
        NapkinDeeds x = strip(4);
        for (int i = 0; i < 2; i++) {
            due(27, x.patterns());
            due(16, x.simple());
            due(16, x.simple());
            due(27, x.patterns());
        }
    }
}
