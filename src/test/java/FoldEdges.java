/** Edges of folds, of unfolding and of shaking out: promises 15 to 17. */
final class FoldEdges extends Edges {
    private static String after(int cells, int... folds) {
        return lies(folded(strip(cells), folds));
    }

    // ---- where it comes to lie

    @Says(promise = TERMS, value = "4 ways: 0 all that lies left of it comes over, on what lies right; 1 it goes under that; 2 all that lies right comes over, on what lies left; 3 it goes under.")
    static void theFourWaysInTheMiddle() {
        due("2 1'|3 0'", after(4, 20));
        due("1' 2|0' 3", after(4, 21));
        due("0 3'|1 2'", after(4, 22));
        due("3' 0|2' 1", after(4, 23));
    }

    @Says(promise = TERMS, value = "COLUMN i - 1 - d comes to where i + d is (or the other way round; d: 0, 1 and so on), if none is there, it lies there by itself")
    static void theSideThatGoesIsLonger() {
        due("4 3'|5 2'|1'|0'", after(6, 40));
        due("3' 4|2' 5|1'|0'", after(6, 41));
        due("5'|4'|0 3'|1 2'", after(6, 22));
        due("5'|4'|3' 0|2' 1", after(6, 23));
        due("5 4'|3'|2'|1'|0'", after(6, 50));
        due("5'|4'|3'|2'|0 1'", after(6, 12));
    }

    @Says(promise = TERMS, value = "COLUMN i - 1 - d comes to where i + d is (or the other way round; d: 0, 1 and so on)")
    static void theSideThatGoesIsShorter() {
        due("2 1'|3 0'|4|5", after(6, 20));
        due("1' 2|0' 3|4|5", after(6, 21));
        due("0|1|2 5'|3 4'", after(6, 42));
        due("0|1|5' 2|4' 3", after(6, 43));
        due("1 0'|2|3|4|5", after(6, 10));
        due("0|1|2|3|5' 4", after(6, 53));
    }

    @Says(promise = TERMS, value = "its stack is upside down then, each CELL turned.")
    static void wholeStacksAreTurned() {
        due("3 0' 1 2'", after(4, 20, 10));
        due("1 2' 3 0'", after(4, 20, 11));
        due("2 1' 0 3'", after(4, 20, 12));
        due("0 3' 2 1'", after(4, 20, 13));
        due("3 2' 1 0'", after(4, 10, 22, 13));
        due("5 3 1 0' 2' 4'", after(6, 10, 10, 10, 10, 10));
    }

    @Says(promise = TERMS, value = "COLUMNS are numbered anew, from the leftmost one on.")
    static void columnsAreNumberedAnew() {
        NapkinDeeds x = folded(strip(6), 12);
        due(0, x.cell(5, 2));
        due(4, x.cell(0, 2));
        due(4, x.cell(1, 2));
        x.fold(1, 0);
        due("4' 5|3'|2'|0 1'", lies(x));
        due(0, x.cell(5, 2));
        NapkinDeeds y = folded(strip(6), 50);
        due(0, y.cell(5, 2));
        due(4, y.cell(0, 2));
    }

    @Says(promise = TERMS, value = "FOLDS are told as 10 i and the way.")
    static void howFoldsAreTold() {
        due(10, folded(strip(6), 10).folded(0));
        due(53, folded(strip(6), 53).folded(0));
        due(32, folded(strip(6), 32).folded(0));
    }

    // ---- promise 15

    @Says(promise = TERMS, value = "A FOLD at a LINE i (1 to COLUMNS less 1: between COLUMNS i - 1 and i), 4 ways")
    static void theFirstAndTheLastLine() {
        for (int way = 0; way < 4; way++) {
            due(5, strip(6).fold(1, way));
            due(5, strip(6).fold(5, way));
            due(3, strip(6).fold(3, way));
            due(1, strip(2).fold(1, way));
        }
    }

    @Says(promise = 15, value = "how many COLUMNS there are then; below 0: less why it can't be (nothing happens).")
    static void noSuchLine() {
        for (int line : new int[] {0, -1, 2, 3, LEAST, MOST, 1 << 30, 429496730}) {
            nothingHappens(-1, Edges::scene, x -> x.fold(line, 0));
        }
        nothingHappens(-1, () -> strip(6), x -> x.fold(6, 0));
        nothingHappens(-1, () -> strip(6), x -> x.fold(0, 3));
        nothingHappens(-1, NapkinDeeds::new, x -> x.fold(1, 0));
        nothingHappens(-1, NapkinDeeds::new, x -> x.fold(0, 0));
        nothingHappens(-1, () -> strip(1), x -> x.fold(1, 0));
        nothingHappens(-1, () -> folded(strip(3), 10, 10), x -> x.fold(1, 0));
    }

    @Says(promise = 15, value = "how many COLUMNS there are then; below 0: less why it can't be (nothing happens).")
    static void noSuchWay() {
        for (int way : new int[] {-1, 4, 10, LEAST, MOST}) {
            nothingHappens(-1, Edges::scene, x -> x.fold(1, way));
        }
    }

    @Says(promise = 15, value = "how many COLUMNS there are then")
    static void asManyFoldsAsThereCanBe() {
        NapkinDeeds x = strip(6);
        for (int columns = 5; columns >= 1; columns--) {
            due(columns, x.fold(1, 0));
        }
        due(5, x.count(5));
        due(-1, x.fold(1, 0));
    }

    @Says(promise = TERMS, value = "DEEDS: a FOLD, one of these")
    static void aFoldThatCannotBeIsNoDeed() {
        NapkinDeeds x = strip(3);
        x.fold(3, 0);
        x.fold(1, 4);
        due(0, x.count(9));
        x.fold(2, 3);
        due(1, x.count(9));
    }

    // ---- promise 16

    @Says(promise = TERMS, value = "To UNFOLD: the latest FOLD is taken back.")
    static void theLatestFoldIsTakenBack() {
        NapkinDeeds x = folded(strip(6), 31, 12);
        String twice = lies(x);
        due(3, x.unfold());
        due("2' 3|1' 4|0' 5", lies(x));
        due(31, x.folded(0));
        due(-1, x.folded(1));
        due(6, x.unfold());
        due("0|1|2|3|4|5", lies(x));
        due(4, x.count(9));
        x.undo(2);
        due(twice, lies(x));
    }

    @Says(promise = TERMS, value = "To UNFOLD: the latest FOLD is taken back.")
    static void unfoldingLeavesAmendedMarks() {
        NapkinDeeds x = folded(strip(2), 10);
        x.amend(0, 1, 77);
        due(2, x.unfold());
        due(77, x.beneath(0));
    }

    @Says(promise = 16, value = "IllegalStateException: there is no FOLD (as below).")
    static void nothingToUnfold() {
        refused(STATE, NapkinDeeds::new, NapkinDeeds::unfold);
        refused(STATE, () -> strip(6), NapkinDeeds::unfold);
        refused(STATE, FoldEdges::unfolded, NapkinDeeds::unfold);
        refused(STATE, FoldEdges::shaken, NapkinDeeds::unfold);
    }

    private static NapkinDeeds unfolded() {
        NapkinDeeds x = folded(strip(3), 10);
        x.unfold();
        return x;
    }

    private static NapkinDeeds shaken() {
        NapkinDeeds x = folded(strip(3), 10, 11);
        x.shake();
        return x;
    }

    // ---- promise 17

    @Says(promise = 17, value = "To SHAKE: how many FOLDS there were.")
    static void allFoldsAreTakenBack() {
        due(1, folded(strip(2), 10).shake());
        NapkinDeeds x = folded(strip(6), 10, 10, 10, 10, 10);
        String before = lies(x);
        x.amend(5, 1, 77);
        due(5, x.shake());
        due("0|1|2|3|4|5", lies(x));
        due(77, x.beneath(5));
        due(0, x.count(5));
        due(7, x.count(9));
        due(6, x.undo(1));
        due(before, lies(x));
        due(5, x.count(5));
    }

    @Says(promise = 17, value = "IllegalStateException")
    static void nothingToShake() {
        refused(STATE, NapkinDeeds::new, NapkinDeeds::shake);
        refused(STATE, () -> strip(6), NapkinDeeds::shake);
        refused(STATE, FoldEdges::unfolded, NapkinDeeds::shake);
        refused(STATE, FoldEdges::shaken, NapkinDeeds::shake);
    }
}
