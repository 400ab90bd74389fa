/** Edges of amending, undoing, told deeds and evenings: promises 18 to 22. */
final class DeedEdges extends Edges {
    private static NapkinDeeds deeds(int many) {
        NapkinDeeds x = strip(6);
        for (int i = 0; i < many; i++) {
            x.amend(0, 0, i);
        }
        return x;
    }

    // ---- promise 18

    @Says(promise = 18, value = "a face (0 front, 1 back) of a CELL has a MARK (0 to 99): the one it had.")
    static void theBoundsOfWhatIsAmended() {
        NapkinDeeds x = strip(6);
        due(10, x.amend(0, 0, 0));
        due(20, x.amend(0, 1, 99));
        due(15, x.amend(5, 0, 99));
        due(25, x.amend(5, 1, 0));
        due(0, x.cell(0, 0));
        due(99, x.cell(0, 1));
        due(99, x.cell(5, 0));
        due(0, x.cell(5, 1));
        due(4, x.count(9));
        due(11, x.cell(1, 0));
        due(24, x.cell(4, 1));
    }

    @Says(promise = TERMS, value = "DEEDS: a FOLD, one of these; each can be UNDONE")
    static void amendingToTheSameMarkIsADeed() {
        NapkinDeeds x = strip(1);
        due(10, x.amend(0, 0, 10));
        due(1, x.count(9));
        due(0, x.undo(1));
        due(10, x.cell(0, 0));
    }

    @Says(promise = 18, value = "IllegalArgumentException: the face, the MARK.")
    static void noSuchFaceOrMark() {
        for (int face : new int[] {-1, 2, LEAST, MOST}) {
            refused(ARGUMENT, x -> x.amend(0, face, 5));
        }
        for (int mark : new int[] {-1, 100, LEAST, MOST}) {
            refused(ARGUMENT, x -> x.amend(0, 0, mark));
            refused(ARGUMENT, x -> x.amend(2, 1, mark));
        }
    }

    @Says(promise = 18, value = "throws NoSuchElementException, IllegalArgumentException")
    static void noSuchCellToAmend() {
        for (int c : new int[] {-1, 3, LEAST, MOST}) {
            refused(NO_SUCH, x -> x.amend(c, 0, 5));
            refused(NO_SUCH, x -> x.amend(c, 2, 5));
            refused(NO_SUCH, x -> x.amend(c, 0, 100));
        }
        refused(NO_SUCH, NapkinDeeds::new, x -> x.amend(0, 0, 0));
        refused(NO_SUCH, () -> strip(6), x -> x.amend(6, -1, -1));
    }

    // ---- promise 19

    @Says(promise = TERMS, value = "each can be UNDONE, the latest first, 10 at most (eldest are forgotten).")
    static void tenDeedsAtMost() {
        due(9, deeds(9).count(9));
        due(10, deeds(10).count(9));
        NapkinDeeds ten = deeds(10);
        due(0, ten.undo(10));
        due(10, ten.cell(0, 0));
        NapkinDeeds eleven = deeds(11);
        due(10, eleven.count(9));
        due(0, eleven.undo(10));
        due(0, eleven.cell(0, 0));
        NapkinDeeds thirty = deeds(30);
        due(10, thirty.count(9));
        due(0, thirty.undo(10));
        due(19, thirty.cell(0, 0));
    }

    @Says(promise = TERMS, value = "each can be UNDONE, the latest first")
    static void theLatestFirst() {
        NapkinDeeds x = strip(3);
        x.amend(0, 0, 1);
        x.fold(1, 0);
        x.fold(1, 1);
        x.unfold();
        x.shake();
        x.amend(0, 0, 2);
        String[] before = {"0|1|2", "1 0'|2", "0 1' 2", "1 0'|2", "0|1|2", "0|1|2"};
        int[] marks = {1, 1, 1, 1, 1, 10};
        for (int i = 0; i < 6; i++) {
            due(5 - i, x.undo(1));
            due(before[i], lies(x));
            due(marks[i], x.cell(0, 0));
        }
    }

    @Says(promise = 19, value = "n DEEDS are UNDONE: how many still can be.")
    static void theFewestAndTheMostUndone() {
        due(9, deeds(10).undo(1));
        due(0, deeds(10).undo(10));
        due(0, deeds(1).undo(1));
        due(4, deeds(10).undo(6));
        NapkinDeeds x = deeds(10);
        x.undo(6);
        due(3, x.cell(0, 0));
        x.amend(0, 0, 99);
        due(5, x.count(9));
        x.undo(2);
        due(2, x.cell(0, 0));
    }

    @Says(promise = 19, value = "IllegalArgumentException: n isn't 1 to 10, there aren't so many.")
    static void notSoManyToUndo() {
        for (int n : new int[] {0, -1, 11, LEAST, MOST}) {
            refused(ARGUMENT, () -> deeds(11), x -> x.undo(n));
            refused(ARGUMENT, x -> x.undo(n));
        }
        refused(ARGUMENT, () -> deeds(9), x -> x.undo(10));
        refused(ARGUMENT, NapkinDeeds::new, x -> x.undo(1));
        refused(ARGUMENT, () -> strip(6), x -> x.undo(1));
        refused(ARGUMENT, () -> deeds(1), x -> x.undo(2));
        refused(ARGUMENT, DeedEdges::allUndone, x -> x.undo(1));
    }

    private static NapkinDeeds allUndone() {
        NapkinDeeds x = deeds(10);
        x.undo(10);
        return x;
    }

    // ---- told deeds

    private static NapkinDeeds judged(NapkinDeeds x, long... told) {
        fill(x, 0, told);
        return x;
    }

    private static String verdict(NapkinDeeds x) {
        return x.judge(0, 0) + " " + x.judge(0, 1) + " " + x.judge(0, 2) + " " + x.judge(0, 3);
    }

    private static void can(NapkinDeeds x, long told) {
        judged(x, told);
        due("-1 0", x.judge(0, 0) + " " + x.judge(0, 1));
    }

    private static void cannot(int why, NapkinDeeds x, long told) {
        judged(x, told);
        due("0 " + why, x.judge(0, 0) + " " + x.judge(0, 1));
        due(0, x.perform(0));
        due(0, x.count(9));
    }

    @Says(promise = TERMS, value = "TOLD DEEDS in a TRAY: 0 to 99: a FOLD")
    static void toldFolds() {
        NapkinDeeds x = strip(6);
        for (int v = 0; v <= 99; v++) {
            if (v >= 10 && v <= 59 && v % 10 <= 3) {
                can(x, v);
            } else {
                cannot(1, x, v);
            }
        }
        can(strip(2), 13);
        cannot(1, strip(2), 20);
        cannot(1, strip(1), 10);
        cannot(1, new NapkinDeeds(), 10);
    }

    @Says(promise = TERMS, value = "100: to UNFOLD; 200: to SHAKE")
    static void toldUnfoldingAndShaking() {
        NapkinDeeds x = judged(strip(3), 10, 11, 100, 200);
        due(-1, x.judge(0, 0));
        due(3, x.judge(0, 2));
        due(4, x.perform(0));
        judged(x, 10, 10, 200, 100);
        due(3, x.judge(0, 0));
        due(2, x.judge(0, 1));
        judged(x, 10, 10, 100);
        due(2, x.judge(0, 2));
        due(1, x.judge(0, 3));
    }

    @Says(promise = TERMS, value = "1000 to 1599: the front of CELL (v - 1000) by 100 has MARK v modulo 100")
    static void toldFronts() {
        NapkinDeeds x = judged(strip(6), 1000, 1199, 1500, 1599);
        due(4, x.perform(0));
        due(0, x.cell(0, 0));
        due(99, x.cell(1, 0));
        due(99, x.cell(5, 0));
        due(25, x.cell(5, 1));
        due(4, x.count(9));
        x.undo(1);
        due(0, x.cell(5, 0));
        for (long v : new long[] {999, 1600, 1601, 1999}) {
            cannot(1, strip(6), v);
        }
        can(strip(5), 1499);
        cannot(1, strip(5), 1500);
        can(strip(1), 1099);
        cannot(1, strip(1), 1100);
        cannot(1, new NapkinDeeds(), 1000);
    }

    @Says(promise = TERMS, value = "2000 to 2599: likewise its back")
    static void toldBacks() {
        NapkinDeeds x = judged(strip(6), 2000, 2199, 2500, 2599);
        due(4, x.perform(0));
        due(0, x.cell(0, 1));
        due(99, x.cell(1, 1));
        due(99, x.cell(5, 1));
        due(15, x.cell(5, 0));
        for (long v : new long[] {1999, 2600, 2601, 2999, 3000}) {
            cannot(1, strip(6), v);
        }
        can(strip(5), 2499);
        cannot(1, strip(5), 2500);
        cannot(1, new NapkinDeeds(), 2000);
    }

    @Says(promise = TERMS, value = "NONE: nothing.")
    static void toldNothing() {
        NapkinDeeds x = judged(strip(3), -1, -1, -1);
        due(-1, x.judge(0, 0));
        due(3, x.perform(0));
        due(0, x.count(9));
        due(1, judged(new NapkinDeeds(), -1).perform(0));
    }

    @Says(promise = TERMS, value = "They can't be: 1 no such LINE, way, CELL, number; 2 there is no FOLD (to UNFOLD, to SHAKE).")
    static void whyToldDeedsCannotBe() {
        cannot(1, strip(3), 30);
        cannot(1, strip(3), 4);
        cannot(1, strip(3), 14);
        cannot(1, strip(3), 1300);
        cannot(1, strip(3), 2300);
        for (long v : new long[] {-2, 101, 199, 201, 300, 999, -10, -100, 1L << 32, (1L << 32) + 10, (1L << 32) - 1,
            (1L << 32) + 100, Long.MIN_VALUE, Long.MAX_VALUE}) {
            cannot(1, strip(3), v);
        }
        cannot(2, strip(3), 100);
        cannot(2, strip(3), 200);
        cannot(2, new NapkinDeeds(), 100);
        cannot(2, new NapkinDeeds(), 200);
    }

    @Says(promise = TERMS, value = "They can't be: 1 no such LINE")
    static void linesAreCountedAsTheDeedsGo() {
        NapkinDeeds x = judged(strip(6), 53, 40, 31, 22, 10);
        due("-1 0 1 5", verdict(x));
        judged(x, 53, 50);
        due(1, x.judge(0, 0));
        due(1, x.judge(0, 1));
        judged(x, 30, 30);
        due(1, x.judge(0, 0));
        judged(x, 30, 20);
        due(-1, x.judge(0, 0));
    }

    // ---- promise 20

    @Says(promise = 20, value = "TOLD DEEDS, judged as if done, what 0: the first place that can't be (NONE), 1: why (0), 2: COLUMNS then, 3: FOLDS then.")
    static void whatIsJudged() {
        NapkinDeeds x = judged(strip(6), 30, -1, 2, 10, 100);
        due("2 1 3 1", verdict(x));
        judged(x, 100, 10);
        due("0 2 6 0", verdict(x));
        judged(x, 30, 10);
        due("-1 0 2 2", verdict(x));
    }

    @Says(promise = 20, value = "TOLD DEEDS, judged as if done")
    static void anEmptyAndAFullTrayJudged() {
        NapkinDeeds x = judged(folded(strip(3), 10));
        due("-1 0 2 1", verdict(x));
        long[] full = new long[30];
        for (int i = 0; i < 30; i++) {
            full[i] = i % 2 == 0 ? 11 : 100;
        }
        judged(x, full);
        due("-1 0 2 1", verdict(x));
        x.write(0, 29, 201);
        due("29 1 1 2", verdict(x));
        NapkinDeeds none = judged(new NapkinDeeds());
        due("-1 0 0 0", verdict(none));
    }

    @Says(promise = 20, value = "judged as if done")
    static void judgingDoesNothing() {
        nothingHappens(3, Edges::scene, x -> x.judge(0, 2));
        NapkinDeeds x = judged(folded(strip(3), 10), 1055, 11, 200, 2099);
        due(-1, x.judge(0, 0));
        due("1 0'|2", lies(x));
        due(10, x.cell(0, 0));
        due(20, x.cell(0, 1));
        due(1, x.count(9));
    }

    @Says(promise = 20, value = "NoSuchElementException: no such TRAY (as below)")
    static void noSuchTrayToJudge() {
        for (int tray : new int[] {-1, 4, LEAST, MOST}) {
            refused(NO_SUCH, x -> x.judge(tray, 0));
            refused(NO_SUCH, x -> x.judge(tray, 4));
        }
    }

    @Says(promise = 20, value = "IllegalStateException: it is MISSING (as below)")
    static void aMissingTrayToJudge() {
        refused(STATE, x -> x.judge(3, 0));
        refused(STATE, x -> x.judge(3, 4));
        refused(STATE, x -> x.judge(3, -1));
        for (int tray = 0; tray < 4; tray++) {
            int missing = tray;
            refused(STATE, NapkinDeeds::new, x -> x.judge(missing, 0));
        }
    }

    @Says(promise = 20, value = "IllegalArgumentException: another what.")
    static void anotherQuestionOfToldDeeds() {
        for (int what : new int[] {-1, 4, 10, LEAST, MOST}) {
            refused(ARGUMENT, x -> x.judge(0, what));
        }
    }

    // ---- promise 21

    @Says(promise = 21, value = "They are done (each but NONE a DEED), till one can't be: how many places were gone through (those of NONE, too).")
    static void toldDeedsAreDone() {
        NapkinDeeds x = judged(strip(3), -1, 10, -1, 1099, -1, 20, 200);
        due(5, x.perform(0));
        due("1 0'|2", lies(x));
        due(99, x.cell(0, 0));
        due(2, x.count(9));
        due(1, x.undo(1));
        due(10, x.cell(0, 0));
        due("1 0'|2", lies(x));
        judged(x, -2, 11);
        due(0, x.perform(0));
        due(1, x.count(9));
    }

    @Says(promise = 21, value = "how many places were gone through")
    static void anEmptyAndAFullTrayPerformed() {
        due(0, judged(strip(3)).perform(0));
        due(0, judged(new NapkinDeeds()).perform(0));
        NapkinDeeds x = strip(3);
        long[] full = new long[30];
        for (int i = 0; i < 30; i++) {
            full[i] = 1000 + i;
        }
        judged(x, full);
        due(30, x.perform(0));
        due(29, x.cell(0, 0));
        due(10, x.count(9));
        x.undo(10);
        due(19, x.cell(0, 0));
    }

    @Says(promise = 21, value = "throws NoSuchElementException, IllegalStateException")
    static void noTrayToPerform() {
        for (int tray : new int[] {-1, 4, LEAST, MOST}) {
            refused(NO_SUCH, x -> x.perform(tray));
        }
        refused(STATE, x -> x.perform(3));
        refused(STATE, NapkinDeeds::new, x -> x.perform(0));
    }

    // ---- promise 22

    /** An evening by hand: draws in longs, deeds by calls. */
    private static int evening(NapkinDeeds x, int seed, int times) {
        long[] state = {seed & 0xFFFFFFFFL};
        int could = 0;
        for (int i = 0; i < times; i++) {
            long sort = draw(state) % 4;
            boolean can;
            if (sort <= 1) {
                int line = (int) (1 + draw(state) % 5);
                can = x.fold(line, (int) (draw(state) % 4)) >= 0;
            } else if (sort == 2) {
                can = x.count(5) > 0;
                if (can) {
                    x.unfold();
                }
            } else {
                int c = (int) (draw(state) % 6);
                int mark = (int) (draw(state) % 100);
                can = c < x.count(1);
                if (can) {
                    x.amend(c, 0, mark);
                }
            }
            could += can ? 1 : 0;
        }
        return could;
    }

    private static long draw(long[] state) {
        state[0] = (1103515245L * state[0] + 12345) & 0xFFFFFFFFL;
        return state[0] >> 16;
    }

    @Says(promise = TERMS, value = "AN EVENING by a SEED (x, an int; a DRAW: x becomes 1103515245 x + 12345, it is x >>> 16)")
    static void drawsWrapAround() {
        for (int seed : new int[] {0, 1, -1, 2, LEAST, LEAST + 1, MOST, MOST - 1, 0x80000000 ^ 0x1234567, 65536, -65536}) {
            for (int cells = 0; cells <= 6; cells++) {
                NapkinDeeds x = strip(cells);
                NapkinDeeds y = strip(cells);
                due(evening(y, seed, 30), x.evening(seed, 30));
                due(Probe.of(y), Probe.of(x));
            }
        }
    }

    @Says(promise = TERMS, value = "so many times (1 to 30)")
    static void theFewestAndTheMostTimes() {
        for (int seed = 1; seed < 12; seed++) {
            for (int times : new int[] {1, 2, 29, 30}) {
                NapkinDeeds x = strip(4);
                NapkinDeeds y = strip(4);
                due(evening(y, seed, times), x.evening(seed, times));
                due(Probe.of(y), Probe.of(x));
            }
        }
    }

    @Says(promise = 22, value = "AN EVENING (each a DEED): how many could be.")
    static void eachIsADeed() {
        NapkinDeeds x = strip(6);
        dueTrue(x.evening(3, 30) > 10);
        due(10, x.count(9));
        due(0, new NapkinDeeds().evening(3, 30));
        NapkinDeeds y = strip(6);
        int could = y.evening(5, 8);
        due(could, y.count(9));
        y.undo(could);
        due("0|1|2|3|4|5", lies(y));
    }

    @Says(promise = 22, value = "IllegalArgumentException: how many times.")
    static void notSoManyTimes() {
        for (int times : new int[] {0, -1, 31, LEAST, MOST}) {
            refused(ARGUMENT, x -> x.evening(1, times));
            refused(ARGUMENT, NapkinDeeds::new, x -> x.evening(1, times));
        }
    }
}
