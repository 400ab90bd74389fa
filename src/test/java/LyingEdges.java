/** Edges of how the napkin lies and of what its laws make of it: promises 5 to 14. */
final class LyingEdges extends Edges {
    private static NapkinDeeds six() {
        return folded(strip(6), 10, 10, 10, 10, 10);
    }

    // ---- promise 5

    @Says(promise = 5, value = "what 0: its MARK in front, 1: at its back, 2: its COLUMN, 3: its layer, 4: 1 if its front is up, else 0.")
    static void whatIsToldOfACell() {
        NapkinDeeds x = folded(strip(4), 21);
        due("1' 2|0' 3", lies(x));
        long[][] cells = {{10, 20, 1, 0, 0}, {11, 21, 0, 0, 0}, {12, 22, 0, 1, 1}, {13, 23, 1, 1, 1}};
        for (int c = 0; c < 4; c++) {
            for (int what = 0; what <= 4; what++) {
                due(cells[c][what], x.cell(c, what));
            }
        }
    }

    @Says(promise = 5, value = "NoSuchElementException: no such CELL (as everywhere)")
    static void noSuchCell() {
        refused(NO_SUCH, x -> x.cell(-1, 0));
        refused(NO_SUCH, x -> x.cell(3, 0));
        refused(NO_SUCH, x -> x.cell(LEAST, 0));
        refused(NO_SUCH, x -> x.cell(MOST, 0));
        refused(NO_SUCH, NapkinDeeds::new, x -> x.cell(0, 0));
        refused(NO_SUCH, () -> strip(6), x -> x.cell(6, 4));
        due(15, strip(6).cell(5, 0));
    }

    @Says(promise = 5, value = "IllegalArgumentException: another what.")
    static void anotherQuestionOfACell() {
        refused(ARGUMENT, x -> x.cell(0, -1));
        refused(ARGUMENT, x -> x.cell(2, 5));
        refused(ARGUMENT, x -> x.cell(0, LEAST));
        refused(ARGUMENT, x -> x.cell(0, MOST));
    }

    @Says(promise = TERMS, value = "Of several throws of a call that one comes that is told first.")
    static void noSuchCellOrColumnIsToldFirst() {
        refused(NO_SUCH, x -> x.cell(3, 5));
        refused(NO_SUCH, x -> x.cell(-1, -1));
        refused(NO_SUCH, x -> x.layer(2, -1));
        refused(NO_SUCH, x -> x.layer(-1, -1));
        refused(NO_SUCH, NapkinDeeds::new, x -> x.layer(0, -1));
    }

    // ---- promise 6

    @Says(promise = 6, value = "How many CELLS lie in a COLUMN.")
    static void theLowestAndTheTallestStack() {
        NapkinDeeds x = strip(6);
        for (int column = 0; column < 6; column++) {
            due(1, x.high(column));
        }
        due(6, six().high(0));
        NapkinDeeds y = folded(strip(6), 22);
        due("5'|4'|0 3'|1 2'", lies(y));
        due(1, y.high(1));
        due(2, y.high(2));
    }

    @Says(promise = 6, value = "NoSuchElementException: no such COLUMN (as everywhere).")
    static void noSuchColumn() {
        refused(NO_SUCH, x -> x.high(-1));
        refused(NO_SUCH, x -> x.high(2));
        refused(NO_SUCH, x -> x.high(LEAST));
        refused(NO_SUCH, x -> x.high(MOST));
        refused(NO_SUCH, NapkinDeeds::new, x -> x.high(0));
        refused(NO_SUCH, LyingEdges::six, x -> x.high(1));
        refused(NO_SUCH, () -> strip(6), x -> x.high(6));
    }

    // ---- promise 7

    @Says(promise = 7, value = "The CELL of a layer of a COLUMN; NONE: no such layer.")
    static void layers() {
        NapkinDeeds x = folded(strip(3), 10);
        due(1, x.layer(0, 0));
        due(0, x.layer(0, 1));
        due(-1, x.layer(0, 2));
        due(2, x.layer(1, 0));
        due(-1, x.layer(1, 1));
        due(-1, x.layer(1, MOST));
        due(4, six().layer(0, 5));
        due(-1, six().layer(0, 6));
    }

    @Says(promise = 7, value = "IllegalArgumentException: the layer is below 0.")
    static void aLayerBelowTheLowest() {
        refused(ARGUMENT, x -> x.layer(0, -1));
        refused(ARGUMENT, x -> x.layer(1, LEAST));
        due(NO_SUCH.getName(), thrown(scene(), x -> x.layer(2, 0)));
    }

    // ---- promises 8 and 9

    @Says(promise = TERMS, value = "ABOVE one sees of each COLUMN the MARK of its highest CELL that is up, BENEATH of its lowest one the MARK that is down.")
    static void theMarksThatAreSeen() {
        NapkinDeeds x = strip(4);
        due(10, x.above(0));
        due(20, x.beneath(0));
        x.fold(2, 0);
        due("2 1'|3 0'", lies(x));
        due(21, x.above(0));
        due(22, x.beneath(0));
        due(20, x.above(1));
        due(23, x.beneath(1));
        x.fold(1, 1);
        due("1 2' 3 0'", lies(x));
        due(20, x.above(0));
        due(21, x.beneath(0));
        NapkinDeeds y = folded(strip(2), 11);
        due("0' 1", lies(y));
        due(11, y.above(0));
        due(10, y.beneath(0));
    }

    @Says(promise = 8, value = "The MARK one sees ABOVE of a COLUMN.")
    static void aboveTheFirstAndLastColumn() {
        NapkinDeeds x = strip(6);
        due(10, x.above(0));
        due(15, x.above(5));
        refused(NO_SUCH, y -> y.above(-1));
        refused(NO_SUCH, y -> y.above(2));
        refused(NO_SUCH, y -> y.above(LEAST));
        refused(NO_SUCH, y -> y.above(MOST));
        refused(NO_SUCH, NapkinDeeds::new, y -> y.above(0));
        refused(NO_SUCH, LyingEdges::six, y -> y.above(1));
    }

    @Says(promise = 9, value = "The MARK one sees BENEATH.")
    static void beneathTheFirstAndLastColumn() {
        NapkinDeeds x = strip(6);
        due(20, x.beneath(0));
        due(25, x.beneath(5));
        refused(NO_SUCH, y -> y.beneath(-1));
        refused(NO_SUCH, y -> y.beneath(2));
        refused(NO_SUCH, y -> y.beneath(LEAST));
        refused(NO_SUCH, y -> y.beneath(MOST));
        refused(NO_SUCH, NapkinDeeds::new, y -> y.beneath(0));
        refused(NO_SUCH, LyingEdges::six, y -> y.beneath(1));
    }

    // ---- promise 10

    @Says(promise = TERMS, value = "0 none: they lie in two COLUMNS; else 2 fronts inside: of both the lower one's front is up; 1 fronts outside.")
    static void theThreeCreases() {
        int[][] due = {{10, 2}, {11, 1}, {12, 2}, {13, 1}};
        for (int[] fold : due) {
            due(0, strip(2).crease(0));
            due(fold[1], folded(strip(2), fold[0]).crease(0));
        }
        NapkinDeeds x = folded(strip(4), 20, 10);
        due("3 0' 1 2'", lies(x));
        due(1, x.crease(0));
        due(2, x.crease(1));
        due(2, x.crease(2));
        NapkinDeeds y = folded(strip(4), 20);
        due(0, y.crease(0));
        due(2, y.crease(1));
        due(0, y.crease(2));
    }

    @Says(promise = TERMS, value = "A CREASE k (0 to CELLS less 2: between CELLS k and k + 1)")
    static void theFirstAndTheLastCrease() {
        NapkinDeeds x = folded(strip(6), 52);
        due(0, x.crease(0));
        due(2, x.crease(4));
        NapkinDeeds y = folded(strip(6), 11);
        due(1, y.crease(0));
        due(0, y.crease(4));
    }

    @Says(promise = 10, value = "NoSuchElementException: no such one.")
    static void noSuchCrease() {
        refused(NO_SUCH, x -> x.crease(-1));
        refused(NO_SUCH, x -> x.crease(2));
        refused(NO_SUCH, x -> x.crease(LEAST));
        refused(NO_SUCH, x -> x.crease(MOST));
        refused(NO_SUCH, NapkinDeeds::new, x -> x.crease(0));
        refused(NO_SUCH, NapkinDeeds::new, x -> x.crease(-1));
        refused(NO_SUCH, () -> strip(1), x -> x.crease(0));
        refused(NO_SUCH, LyingEdges::six, x -> x.crease(5));
        due(2, folded(strip(2), 10).crease(0));
    }

    // ---- promise 11

    @Says(promise = 11, value = "The k-th FOLD of those that are there (0: the first); NONE: not so many.")
    static void theFoldsThatAreThere() {
        due(-1, new NapkinDeeds().folded(0));
        due(-1, strip(6).folded(0));
        int[] folds = {53, 10, 31, 12, 13};
        NapkinDeeds x = folded(strip(6), folds);
        for (int k = 0; k < 5; k++) {
            due(folds[k], x.folded(k));
        }
        due(-1, x.folded(5));
        due(-1, x.folded(MOST));
        x.unfold();
        due(12, x.folded(3));
        due(-1, x.folded(4));
        x.shake();
        due(-1, x.folded(0));
    }

    @Says(promise = 11, value = "IllegalArgumentException: k is below 0.")
    static void aFoldBeforeTheFirst() {
        refused(ARGUMENT, x -> x.folded(-1));
        refused(ARGUMENT, x -> x.folded(LEAST));
        refused(ARGUMENT, NapkinDeeds::new, x -> x.folded(-1));
    }

    // ---- promises 12 to 14

    @Says(promise = TERMS, value = "wide: COLUMNS, high: the greatest stack, folds: how many FOLDS there are, top: all MARKS seen ABOVE, under: BENEATH, together, hidden: all MARKS of all CELLS, both, less these.")
    static void whatLawsTellOfHowItLies() {
        String[] facts = {"wide", "high", "folds", "top", "under", "hidden"};
        int[] none = {0, 0, 0, 0, 0, 0};
        int[] flat = {3, 1, 0, 6, 24, 0};
        int[] once = {2, 2, 1, 12, 15, 3};
        int[] twice = {1, 3, 2, 9, 3, 18};
        for (int i = 0; i < facts.length; i++) {
            String law = "worth:" + facts[i] + ";";
            due(none[i], told(law).worth());
            NapkinDeeds x = told(STRIP + law);
            due(flat[i], x.worth());
            due(once[i], folded(x, 10).worth());
            due(twice[i], folded(x, 13).worth());
            NapkinDeeds y = told(STRIP + "guest 99;guest 98;likes:" + facts[i] + ";");
            due(flat[i], y.likes(1));
            due(once[i], folded(y, 10).likes(1));
            y.best(5, 0);
            due(once[i], y.likes(1));
            due(twice[i], folded(y, 13).likes(0));
        }
    }

    @Says(promise = TERMS, value = "wide: COLUMNS, high: the greatest stack, folds: how many FOLDS there are")
    static void theGreatestFacts() {
        String cells = times(6, "cell 99 back 99;");
        due(600, told(cells + "worth:wide*100;").worth());
        due(594, told(cells + "worth:top;").worth());
        due(594, told(cells + "worth:under;").worth());
        due(0, told(cells + "worth:hidden;").worth());
        int[] pleats = {10, 10, 10, 10, 10};
        due(990, folded(told(cells + "worth:hidden;"), pleats).worth());
        due(6, folded(told(cells + "worth:high;"), pleats).worth());
        due(5, folded(told(cells + "worth:folds;"), pleats).worth());
        due(1, folded(told(cells + "worth:wide;"), pleats).worth());
    }

    @Says(promise = TERMS, value = "each + - * kept from -1,000,000 to 1,000,000.")
    static void plusIsKeptWithinItsBounds() {
        due(999999, told("worth:999*999+999+999;").worth());
        due(1000000, told("worth:999*999+999+999+1;").worth());
        due(1000000, told("worth:999*999+999+999+2;").worth());
        due(999999, told("worth:999*999+999+999+2-1;").worth());
        due(999001, told("worth:999*999+999*999-999;").worth());
    }

    @Says(promise = TERMS, value = "each + - * kept from -1,000,000 to 1,000,000.")
    static void minusIsKeptWithinItsBounds() {
        due(-999999, told("worth:0-999*999-999-999;").worth());
        due(-1000000, told("worth:0-999*999-999-999-1;").worth());
        due(-1000000, told("worth:0-999*999-999-999-2;").worth());
        due(-999999, told("worth:0-999*999-999-999-2+1;").worth());
        due(-999001, told("worth:0-999*999-999*999+999;").worth());
        due(999999, told("worth:0-(0-999*999-999)+999+3-1;").worth());
    }

    @Says(promise = TERMS, value = "each + - * kept from -1,000,000 to 1,000,000.")
    static void timesIsKeptWithinItsBounds() {
        due(1000000, told("worth:(999+1)*(999+1);").worth());
        due(999999, told("worth:(999+1)*(999+2)-1;").worth());
        due(-1000000, told("worth:(0-999-1)*(999+1);").worth());
        due(-999999, told("worth:(0-999-1)*(999+2)+1;").worth());
        due(1000000, told("worth:(0-999-1)*(0-999-2);").worth());
        due(999999, told("worth:(999+1)*(999+1)*((999+1)*(999+1))-1;").worth());
        due(-999999, told("worth:(0-999*999*999)*(999*999*999)+1;").worth());
        due(999999, told("worth:(0-999*999*999)*(0-999*999*999)-1;").worth());
        due(0, told("worth:999*999*999*0;").worth());
    }

    @Says(promise = TERMS, value = "each + - * kept from -1,000,000 to 1,000,000.")
    static void holdsAndLikesAreKeptTheSameWay() {
        dueTrue(told("holds:999*999*2=999*999*3;").holds());
        dueTrue(told("holds:999*999*2-1<999*999*3;").holds());
        dueTrue(told("holds:0-999*999-999*999=0-999*999*2;").holds());
        NapkinDeeds x = told("guest 99;guest 98;likes:want*999*999-guest*want*999*999*2;");
        due(1000000, x.likes(0));
        due(0, x.likes(1));
    }

    @Says(promise = 12, value = "WORTH now.")
    static void worthWithoutALaw() {
        due(0, new NapkinDeeds().worth());
        due(0, told(STRIP + "holds:1=1;likes:5;guest 1;").worth());
        NapkinDeeds x = told("worth:5;");
        due(5, x.worth());
        x.napkin(0);
        due(0, x.worth());
    }

    @Says(promise = TERMS, value = "it HOLDS, if the law holds does (without one: never).")
    static void neverWithoutALaw() {
        dueFalse(new NapkinDeeds().holds());
        dueFalse(told(STRIP + "worth:5;likes:5;guest 1;").holds());
        NapkinDeeds x = told("holds:1=1;");
        dueTrue(x.holds());
        tell(x, "guest 1;");
        dueFalse(x.holds());
        due(-1, x.soonest(0));
    }

    @Says(promise = 13, value = "Whether it HOLDS now.")
    static void itHoldsNow() {
        NapkinDeeds x = told(STRIP + "holds:wide=2;");
        dueFalse(x.holds());
        x.fold(1, 0);
        dueTrue(x.holds());
        x.fold(1, 0);
        dueFalse(x.holds());
        dueTrue(told("holds:wide=0 and high=0 and top=0;").holds());
    }

    @Says(promise = TERMS, value = "LIKES by the law likes (without one: 0)")
    static void likesWithoutALaw() {
        NapkinDeeds x = told("guest 50;guest 60;worth:9;holds:1=1;");
        due(0, x.likes(0));
        due(0, x.likes(1));
    }

    @Says(promise = TERMS, value = "guest: its number, want: what it WANTS")
    static void theFirstAndTheLastGuest() {
        NapkinDeeds x = told("guest 99;guest 1;guest 2;guest 0;likes:guest*100+want;");
        due(99, x.likes(0));
        due(101, x.likes(1));
        due(202, x.likes(2));
        due(300, x.likes(3));
    }

    @Says(promise = 14, value = "NoSuchElementException: no such GUEST.")
    static void noSuchGuest() {
        refused(NO_SUCH, x -> x.likes(-1));
        refused(NO_SUCH, x -> x.likes(2));
        refused(NO_SUCH, x -> x.likes(LEAST));
        refused(NO_SUCH, x -> x.likes(MOST));
        refused(NO_SUCH, NapkinDeeds::new, x -> x.likes(0));
        refused(NO_SUCH, () -> told("guest 1;guest 1;guest 1;guest 1;"), x -> x.likes(4));
    }
}
