/** Edges of what was folded by what is seen: promises 41 to 43. */
final class SeenEdges extends Edges {
    private interface Asked {
        void on(NapkinDeeds x, int tray, int m);
    }

    private static NapkinDeeds see(int cells, long... marks) {
        return filled(strip(cells), marks);
    }

    private static void noSight(Asked asked) {
        refused(ARGUMENT, () -> see(3), x -> asked.on(x, 0, 1));
        refused(ARGUMENT, () -> see(6, -1, -1, -1, -1, -1, -1, -1), x -> asked.on(x, 0, 1));
        refused(ARGUMENT, () -> see(6, new long[30]), x -> asked.on(x, 0, 1));
        refused(ARGUMENT, () -> see(3, -2), x -> asked.on(x, 0, 1));
        refused(ARGUMENT, () -> see(3, -1, 5, Long.MIN_VALUE), x -> asked.on(x, 0, 1));
        for (int m : new int[] {-1, 5, LEAST, MOST}) {
            refused(ARGUMENT, x -> asked.on(x, 1, m));
        }
    }

    private static void noTray(Asked asked) {
        for (int tray : new int[] {-1, 4, LEAST, MOST}) {
            refused(NO_SUCH, x -> asked.on(x, tray, 0));
            refused(NO_SUCH, x -> asked.on(x, tray, 5));
        }
        refused(STATE, x -> asked.on(x, 3, 0));
        refused(STATE, x -> asked.on(x, 3, -1));
        refused(STATE, NapkinDeeds::new, x -> asked.on(x, 0, 0));
    }

    // ---- promise 41

    @Says(promise = TERMS, value = "SEEN in a TRAY (1 to 6 numbers: MARKS ABOVE from left to right; NONE: not seen): rows of m FOLDS (0 to 4) at most from FLAT by which it looks so (as many COLUMNS as numbers).")
    static void rowsByWhichItLooksSo() {
        due(1, see(2, 10, 11).seen(0, 0));
        due(1, see(2, 10, 11).seen(0, 4));
        due(0, see(2, 11, 10).seen(0, 4));
        due(1, see(2, -1, -1).seen(0, 0));
        due(0, see(2, -1).seen(0, 0));
        due(4, see(2, -1).seen(0, 1));
        due(1, see(2, 20).seen(0, 1));
        due(0, see(2, 99).seen(0, 1));
        due(0, see(2, -1, -1, -1).seen(0, 4));
        due(1, see(6, 10, 11, 12, 13, 14, 15).seen(0, 4));
        due(8, see(6, -1, -1, -1, -1, -1).seen(0, 4));
    }

    @Says(promise = TERMS, value = "rows of m FOLDS (0 to 4) at most")
    static void asManyFoldsAtMost() {
        int[] rows = {0, 0, 32, 32, 32};
        for (int m = 0; m <= 4; m++) {
            due(rows[m], see(3, -1).seen(0, m));
        }
        for (int m = 0; m <= 4; m++) {
            due(oneColumn(6, m), see(6, -1).seen(0, m));
        }
    }

    /** Rows of m folds at most that leave one column. */
    private static int oneColumn(int columns, int m) {
        int rows = columns == 1 ? 1 : 0;
        for (int line = 1; line < columns && m > 0; line++) {
            rows += 4 * oneColumn(Math.max(line, columns - line), m - 1);
        }
        return rows;
    }

    @Says(promise = TERMS, value = "at most from FLAT by which it looks so")
    static void itIsSeenFromFlat() {
        NapkinDeeds x = folded(see(3, -1, -1), 10);
        due(8, x.seen(0, 4));
        due(0, x.sure(0, 4));
        NapkinDeeds y = folded(see(2, 20), 13);
        due(1, y.seen(0, 1));
        due(1, y.sure(0, 1));
        due(0, y.look(0, 1));
        NapkinDeeds none = filled(new NapkinDeeds(), -1);
        due(0, none.seen(0, 4));
        due(0, none.sure(0, 4));
        due(-1, none.look(0, 4));
    }

    @Says(promise = 41, value = "IllegalArgumentException: not 1 to 6 numbers, one is below NONE; m.")
    static void nothingSeen() {
        noSight((x, tray, m) -> x.seen(tray, m));
    }

    @Says(promise = 41, value = "throws NoSuchElementException, IllegalStateException, IllegalArgumentException")
    static void noTrayWithWhatIsSeen() {
        noTray((x, tray, m) -> x.seen(tray, m));
    }

    // ---- promise 42

    @Says(promise = 42, value = "CREASES that are there (1 or 2) in all of these (without any: 0), as bits.")
    static void creasesThatAreSure() {
        due(0, see(2, 10, 11).sure(0, 0));
        due(0, see(2, -1).sure(0, 0));
        due(1, see(2, -1).sure(0, 1));
        due(1, see(2, 10).sure(0, 4));
        due(0, see(3, -1, -1).sure(0, 1));
        due(2, see(3, 10, 22).sure(0, 1));
        due(1, see(3, 20, 12).sure(0, 1));
        due(3, see(3, -1).sure(0, 2));
        due(31, see(6, -1).sure(0, 4));
        due(16, see(6, 10, 11, 12, 13, 25).sure(0, 4));
        due(0, see(6, -1, -1, -1, -1, -1).sure(0, 4));
        due(0, see(6, 99).sure(0, 4));
    }

    @Says(promise = 42, value = "IllegalArgumentException: as seen().")
    static void nothingSure() {
        noSight((x, tray, m) -> x.sure(tray, m));
    }

    @Says(promise = 42, value = "throws NoSuchElementException, IllegalStateException, IllegalArgumentException")
    static void noTrayWithWhatIsSure() {
        noTray((x, tray, m) -> x.sure(tray, m));
    }

    // ---- promise 43

    @Says(promise = 43, value = "The COLUMN to look at BENEATH that tells most: the greatest number of these rows by which one and the same MARK is there is least, the first; NONE: there are none.")
    static void theColumnThatTellsMost() {
        NapkinDeeds alike = see(3, -1, -1);
        due(0, alike.look(0, 1));
        NapkinDeeds second = filled(told("cell 1 back 5;cell 2 back 8;cell 5 back 7;"), -1, -1);
        due(1, second.look(0, 1));
        NapkinDeeds first = filled(told("cell 4 back 8;cell 2 back 8;cell 5 back 4;"), -1, -1);
        due(0, first.look(0, 1));
    }

    @Says(promise = 43, value = "the first; NONE: there are none.")
    static void theFirstColumnOrNone() {
        due(0, see(2, 10, 11).look(0, 0));
        due(0, see(6, 10, 11, 12, 13, 14, 15).look(0, 4));
        due(0, see(2, -1).look(0, 1));
        due(0, filled(told("cell 0 back 0;cell 0 back 0;"), -1).look(0, 1));
        due(0, filled(told("cell 0 back 0;cell 0 back 0;"), 0, 0).look(0, 0));
        due(0, filled(told("cell 99 back 99;cell 99 back 99;"), -1).look(0, 1));
        due(-1, see(2, -1).look(0, 0));
        due(-1, see(2, 99).look(0, 4));
        due(-1, see(2, -1, -1, -1).look(0, 4));
    }

    @Says(promise = 43, value = "IllegalArgumentException: as seen().")
    static void nothingToLookAt() {
        noSight((x, tray, m) -> x.look(tray, m));
    }

    @Says(promise = 43, value = "throws NoSuchElementException, IllegalStateException, IllegalArgumentException")
    static void noTrayToLookAt() {
        noTray((x, tray, m) -> x.look(tray, m));
    }
}
