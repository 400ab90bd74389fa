/** Edges of trays, images and counts: promises 44 to 49. */
final class TrayEdges extends Edges {
    private static NapkinDeeds row(int sort, int many) {
        NapkinDeeds x = strip(3);
        x.tray(0, sort, many);
        return x;
    }

    // ---- promise 44

    @Says(promise = TERMS, value = "TRAYS 0 to 3 are MISSING at first")
    static void missingAtFirst() {
        for (int tray = 0; tray < 4; tray++) {
            int missing = tray;
            refused(STATE, NapkinDeeds::new, x -> x.write(missing, 0, 0));
            NapkinDeeds x = new NapkinDeeds();
            x.tray(tray, 0, 1);
            due(7, x.write(tray, 0, 7));
            for (int other = 0; other < 4; other++) {
                int another = other;
                due(other == tray ? "nothing" : STATE.getName(), thrown(x, y -> y.write(another, 0, 7)));
            }
        }
    }

    @Says(promise = TERMS, value = "or rows of 0 to 30 numbers")
    static void theEmptyAndTheFullRow() {
        NapkinDeeds empty = row(3, 0);
        due(INDEX.getName(), thrown(empty, x -> x.write(0, 0, 1)));
        due(0, empty.copy(0));
        NapkinDeeds full = row(3, 30);
        for (int place = 0; place < 30; place++) {
            due(place, full.write(0, place, place));
        }
        due(INDEX.getName(), thrown(full, x -> x.write(0, 30, 1)));
    }

    @Says(promise = 44, value = "A TRAY is a row of so many 0s.")
    static void aRowOfNoughts() {
        NapkinDeeds x = row(3, 2);
        due(1, x.made(0));
        fill(x, 0, 2, 1);
        due(8, x.made(0));
        x.tray(0, 1, 2);
        due(1, x.made(0));
        fill(x, 0, 2, 1, 2, 1);
        x.tray(0, 3, 1);
        x.tray(0, 3, 2);
        due(1, x.made(0));
        fill(x, 1, 2, 1);
        x.tray(0, 0, 2);
        due(8, x.made(1));
    }

    @Says(promise = 44, value = "NoSuchElementException: no such TRAY; IllegalArgumentException: no such sort, or not so many.")
    static void noSuchTray() {
        for (int tray : new int[] {-1, 4, LEAST, MOST}) {
            refused(NO_SUCH, x -> x.tray(tray, 0, 1));
            refused(NO_SUCH, x -> x.tray(tray, 4, 1));
            refused(NO_SUCH, x -> x.tray(tray, 0, 31));
        }
    }

    @Says(promise = 44, value = "IllegalArgumentException: no such sort, or not so many.")
    static void noSuchSortOrNotSoMany() {
        for (int sort : new int[] {-1, 4, LEAST, MOST}) {
            refused(ARGUMENT, x -> x.tray(0, sort, 1));
            refused(ARGUMENT, x -> x.tray(3, sort, 1));
        }
        for (int many : new int[] {-1, 31, LEAST, MOST}) {
            refused(ARGUMENT, x -> x.tray(0, 0, many));
            refused(ARGUMENT, x -> x.tray(3, 3, many));
        }
        for (int sort = 0; sort <= 3; sort++) {
            due(1, row(sort, 1).write(0, 0, 1));
        }
    }

    // ---- promise 45

    private static void cut(int sort, long to, long v) {
        due(to, row(sort, 1).write(0, 0, v));
    }

    @Says(promise = TERMS, value = "rows of 0 to 30 numbers of 8 bits (sort 0), 16 (1), 32 (2), 64 (3).")
    static void numbersAreCutToTheirSort() {
        for (int sort = 0; sort <= 3; sort++) {
            int bits = 8 << sort;
            long most = Long.MAX_VALUE >> 64 - bits;
            long least = Long.MIN_VALUE >> 64 - bits;
            cut(sort, most, most);
            cut(sort, least, least);
            cut(sort, least, most + 1);
            cut(sort, most, least - 1);
            cut(sort, 0, 0);
            cut(sort, -1, -1);
        }
        cut(0, 0, 256);
        cut(0, -1, 255);
        cut(1, 0, 65536);
        cut(1, 255, 255);
        cut(2, 0, 1L << 32);
        cut(2, 65535, 65535);
        cut(3, 1L << 32, 1L << 32);
        cut(0, 0, Long.MIN_VALUE);
        cut(1, -1, Long.MAX_VALUE);
        cut(2, -1, Long.MAX_VALUE);
    }

    @Says(promise = 45, value = "A number comes to a place of a TRAY, cut to its sort: as it is there.")
    static void asItIsThere() {
        NapkinDeeds x = row(0, 2);
        due(10, x.write(0, 0, 266));
        due(-1, x.write(0, 1, 255));
        due(-1, x.judge(0, 0));
        due(2, x.perform(0));
        due("1 0'|2", lies(x));
        due(1, x.count(9));
    }

    @Says(promise = 45, value = "IndexOutOfBoundsException: it has no such place.")
    static void noSuchPlace() {
        for (int place : new int[] {-1, 4, 30, LEAST, MOST}) {
            refused(INDEX, x -> x.write(0, place, 1));
        }
        refused(INDEX, () -> row(0, 0), x -> x.write(0, 0, 1));
        refused(INDEX, () -> row(0, 30), x -> x.write(0, 30, 1));
        refused(INDEX, () -> row(0, 1), x -> x.write(0, 1, 1));
    }

    @Says(promise = 45, value = "IllegalStateException: it is MISSING; IndexOutOfBoundsException: it has no such place.")
    static void noTrayToWriteTo() {
        refused(STATE, x -> x.write(3, 0, 1));
        refused(STATE, x -> x.write(3, -1, 1));
        refused(STATE, x -> x.write(3, 30, 1));
        for (int tray : new int[] {-1, 4, LEAST, MOST}) {
            refused(NO_SUCH, x -> x.write(tray, 0, 1));
            refused(NO_SUCH, x -> x.write(tray, -1, 1));
        }
    }

    // ---- promise 46

    @Says(promise = 46, value = "MARKS ABOVE come into a TRAY from its first place on, as many as it has places: how many.")
    static void marksComeIntoATray() {
        for (int many = 0; many <= 7; many++) {
            NapkinDeeds x = strip(6);
            x.tray(0, 0, many);
            due(Math.min(6, many), x.copy(0));
        }
        NapkinDeeds exact = row(0, 3);
        due(3, exact.copy(0));
        due(0, exact.reads(0, 0));
        NapkinDeeds fewer = folded(row(0, 1), 10);
        due(1, fewer.copy(0));
        fill(fewer, 1, 20);
        due(fewer.reads(1, 10), fewer.reads(0, 10));
        NapkinDeeds none = new NapkinDeeds();
        none.tray(0, 0, 30);
        due(0, none.copy(0));
    }

    @Says(promise = 46, value = "from its first place on, as many as it has places")
    static void theOtherPlacesStay() {
        NapkinDeeds x = filled(told("cell 10 back 99;"), 7, 100, -1);
        due(1, x.copy(0));
        due(0, x.judge(0, 0));
        NapkinDeeds y = filled(told("cell 10 back 0;cell 99 back 0;"), 5, 5, 200, -1);
        due(2, y.copy(0));
        due("1 1", y.judge(0, 0) + " " + y.judge(0, 1));
        y.write(0, 1, 11);
        due("1 1", y.judge(0, 0) + " " + y.judge(0, 1));
        y.write(0, 1, -1);
        due(-1, y.judge(0, 0));
    }

    @Says(promise = 46, value = "throws NoSuchElementException, IllegalStateException")
    static void noTrayToCopyTo() {
        for (int tray : new int[] {-1, 4, LEAST, MOST}) {
            refused(NO_SUCH, x -> x.copy(tray));
        }
        refused(STATE, x -> x.copy(3));
        refused(STATE, NapkinDeeds::new, x -> x.copy(0));
    }

    // ---- promises 47 and 48

    @Says(promise = TERMS, value = "IMAGES 0 to 2: all but the tape, the FAULT and TRAYS, as it was (none at first).")
    static void threeImages() {
        NapkinDeeds x = strip(3);
        for (int i = 0; i < 3; i++) {
            x.image(i);
            x.fold(1, i);
        }
        due("0|1|2", imageOf(x, 0));
        due("1 0'|2", imageOf(x, 1));
        due("0 1' 2", imageOf(x, 2));
        due("0|1|2", imageOf(x, 0));
    }

    private static String imageOf(NapkinDeeds x, int i) {
        x.restore(i);
        return lies(x);
    }

    @Says(promise = TERMS, value = "all but the tape, the FAULT and TRAYS, as it was")
    static void whatAnImageKeeps() {
        NapkinDeeds x = used();
        x.image(0);
        x.shake();
        x.amend(2, 0, 55);
        due(6, tell(x, "cell 5 back 6;guest 1;worth:9;holds:1=1;likes:8;cell 7 back 8;"));
        for (int i = 0; i < 12; i++) {
            x.amend(1, 1, i);
        }
        x.restore(0);
        NapkinDeeds y = used();
        y.image(0);
        due(Probe.butFault(y), Probe.butFault(x));
    }

    @Says(promise = TERMS, value = "all but the tape, the FAULT and TRAYS")
    static void whatAnImageDoesNotKeep() {
        NapkinDeeds x = strip(3);
        x.image(0);
        due(-13, tell(x, "guest 100;"));
        feed(x, "guest 1;worth:4;    ");
        fill(x, 0, 12);
        x.restore(0);
        due(3, x.fault(0));
        due(6, x.fault(1));
        due(20, x.count(10));
        due(1, x.perform(0));
        due("2'|0 1'", lies(x));
        due(2, x.napkin(20));
        due(4, x.worth());
        x.image(1);
        x.restore(0);
        due("0|1|2", lies(x));
        x.restore(1);
        due(4, x.worth());
    }

    @Says(promise = 47, value = "An IMAGE is made.")
    static void makingAnImageChangesNothingElse() {
        NapkinDeeds x = used();
        NapkinDeeds y = used();
        x.image(1);
        y.image(1);
        y.image(1);
        due(Probe.of(x), Probe.of(y));
        NapkinDeeds z = strip(3);
        z.image(0);
        z.fold(1, 0);
        z.image(0);
        z.shake();
        due("1 0'|2", imageOf(z, 0));
        due(10, z.folded(0));
        due(1, z.count(9));
        NapkinDeeds none = new NapkinDeeds();
        none.image(2);
        tell(none, STRIP);
        none.restore(2);
        due(0, none.count(1));
        due(0, none.count(9));
    }

    @Says(promise = 47, value = "NoSuchElementException: no such one.")
    static void noSuchImageToMake() {
        for (int i : new int[] {-1, 3, LEAST, MOST}) {
            refused(NO_SUCH, x -> x.image(i));
        }
    }

    @Says(promise = 48, value = "All is as in an IMAGE.")
    static void deedsAreAsInAnImage() {
        NapkinDeeds x = strip(3);
        for (int i = 0; i < 11; i++) {
            x.amend(0, 0, i);
        }
        x.fold(1, 0);
        x.image(0);
        x.undo(10);
        x.restore(0);
        due(10, x.count(9));
        due(9, x.undo(1));
        due("0|1|2", lies(x));
        due(0, x.undo(9));
        due(1, x.cell(0, 0));
        x.restore(0);
        due("1 0'|2", lies(x));
        due(10, x.cell(0, 0));
    }

    @Says(promise = 48, value = "NoSuchElementException: no such one; IllegalStateException: none was made.")
    static void noImageToRestore() {
        for (int i : new int[] {-1, 3, LEAST, MOST}) {
            refused(NO_SUCH, x -> x.restore(i));
            refused(NO_SUCH, NapkinDeeds::new, x -> x.restore(i));
        }
        refused(STATE, x -> x.restore(0));
        refused(STATE, x -> x.restore(2));
        for (int i = 0; i < 3; i++) {
            int image = i;
            refused(STATE, NapkinDeeds::new, x -> x.restore(image));
        }
    }

    // ---- promise 49

    @Says(promise = 49, value = "0 LINES, 1 CELLS, 2 GUESTS, 3 COLUMNS, 4 the greatest stack, 5 FOLDS, 6 top, 7 under, 8 hidden, 9 DEEDS that can be UNDONE, 10 bytes on the tape")
    static void whatIsCounted() {
        NapkinDeeds x = told(STRIP + "guest 4;");
        feed(x, times(900, " "));
        int[] flat = {4, 3, 1, 3, 1, 0, 6, 24, 0, 0, 900};
        int[] once = {4, 3, 1, 2, 2, 1, 12, 15, 3, 1, 900};
        for (int what = 0; what <= 10; what++) {
            due(flat[what], x.count(what));
        }
        x.fold(1, 0);
        for (int what = 0; what <= 10; what++) {
            due(once[what], x.count(what));
            due(0, new NapkinDeeds().count(what));
        }
        NapkinDeeds full = folded(told(times(6, "cell 99 back 99;") + times(4, "guest 1;")), 10, 10, 10, 10, 10);
        int[] most = {10, 6, 4, 1, 6, 5, 99, 99, 990, 5, 0};
        for (int what = 0; what <= 10; what++) {
            due(most[what], full.count(what));
        }
    }

    @Says(promise = 49, value = "NONE for others.")
    static void otherCounts() {
        for (int what : new int[] {-1, 11, LEAST, MOST}) {
            due(-1, scene().count(what));
            due(-1, new NapkinDeeds().count(what));
        }
    }
}
