/** Edges of what guests would rather have: promises 37 to 40. */
final class GuestEdges extends Edges {
    private static final int[] NOT_SO_MANY_FOLDS = {-1, 6, 10, LEAST, MOST};

    private static String guests(int... wants) {
        StringBuilder text = new StringBuilder();
        for (int want : wants) {
            text.append("guest ").append(want).append(";");
        }
        return text.toString();
    }

    // ---- promise 37

    @Says(promise = 37, value = "GUESTS who LIKE it less than FLAT, no FOLDS, as bits.")
    static void whoRefuses() {
        due(15, folded(strip(2, guests(1, 1, 1, 1) + "likes:0-folds;"), 10).refuse());
        due(8, folded(strip(2, guests(0, 0, 0, 1) + "likes:0-folds*want;"), 10).refuse());
        due(1, folded(strip(2, guests(1, 0, 0, 0) + "likes:0-folds*want;"), 10).refuse());
        due(6, folded(strip(2, guests(0, 1, 2, 0) + "likes:0-folds*want;"), 10).refuse());
        due(1, folded(strip(2, guests(1, 0) + "likes:wide*want;"), 10).refuse());
        due(2, folded(strip(2, guests(0, 2) + "likes:0-high*want;"), 10).refuse());
        due(0, folded(strip(2, guests(1, 1) + "likes:hidden+top;"), 12).refuse());
    }

    @Says(promise = 37, value = "who LIKE it less than FLAT")
    static void asMuchOrMoreIsNotLess() {
        due(0, folded(strip(2, guests(1, 2) + "likes:5;"), 10).refuse());
        due(0, folded(strip(2, guests(1, 2) + "likes:folds;"), 10).refuse());
        due(0, folded(strip(2, guests(1, 2)), 10).refuse());
        due(0, folded(strip(2, "likes:0-folds;"), 10).refuse());
        due(0, strip(2, guests(1, 2) + "likes:0-folds;").refuse());
        due(0, new NapkinDeeds().refuse());
        NapkinDeeds x = folded(strip(2, guests(1, 2) + "likes:0-folds;"), 10);
        due(3, x.refuse());
        x.unfold();
        due(0, x.refuse());
    }

    // ---- promise 38

    @Says(promise = 38, value = "By n FOLDS at most: that by which the GUEST who LIKES it least LIKES it most, what 0: how much that is (0 without GUESTS), 1: how many FOLDS, 10 + k: the k-th (NONE: not so many).")
    static void theFairest() {
        NapkinDeeds x = strip(3, guests(0, 2) + "likes:0-(folds-want)*(folds-want);");
        due(-4, x.fairest(0, 0));
        due(0, x.fairest(0, 1));
        due(-1, x.fairest(5, 0));
        due(1, x.fairest(5, 1));
        due(10, x.fairest(5, 10));
        due(-1, x.fairest(5, 11));
        NapkinDeeds five = strip(6, guests(3, 1, 2, 4) + "likes:folds*want;");
        for (int n = 0; n <= 5; n++) {
            due(n, five.fairest(n, 0));
            due(n, five.fairest(n, 1));
            for (int k = 0; k <= 4; k++) {
                due(k < n ? 10 : -1, five.fairest(n, 10 + k));
            }
        }
    }

    @Says(promise = 38, value = "(0 without GUESTS)")
    static void fairestWithoutGuests() {
        NapkinDeeds x = strip(3, "likes:5+folds;");
        due(0, x.fairest(5, 0));
        due(0, x.fairest(5, 1));
        due(-1, x.fairest(5, 10));
        due(0, new NapkinDeeds().fairest(0, 0));
        due(-7, strip(3, guests(1) + "likes:0-7;").fairest(5, 0));
        due(7, strip(3, guests(1, 1) + "likes:7;").fairest(5, 0));
        due(0, strip(3, guests(1, 1)).fairest(5, 0));
    }

    @Says(promise = TERMS, value = "of like ones the fewest FOLDS, then the first, one behind the other.")
    static void amongLikeFairOnes() {
        NapkinDeeds x = strip(3, guests(1) + "likes:0-(wide-2)*(wide-2);");
        due(1, x.fairest(5, 1));
        due(10, x.fairest(5, 10));
        due(0, strip(3, guests(1) + "likes:9;").fairest(5, 1));
    }

    @Says(promise = 38, value = "IllegalArgumentException: n, another what (10 to 14).")
    static void anotherQuestionOfTheFairest() {
        for (int n : NOT_SO_MANY_FOLDS) {
            refused(ARGUMENT, x -> x.fairest(n, 0));
            refused(ARGUMENT, x -> x.fairest(n, 15));
        }
        for (int what : new int[] {-1, 2, 9, 15, LEAST, MOST}) {
            refused(ARGUMENT, x -> x.fairest(0, what));
            refused(ARGUMENT, x -> x.fairest(5, what));
            refused(ARGUMENT, NapkinDeeds::new, x -> x.fairest(5, what));
        }
    }

    // ---- promise 39

    @Says(promise = 39, value = "In how many unlike LOOKS by n FOLDS at most no GUEST LIKES it less than now, and one more.")
    static void looksThatAreBetter() {
        NapkinDeeds x = strip(3, guests(0, 1) + "likes:folds*want;");
        due(0, x.better(0));
        due(8, x.better(1));
        due(20, x.better(2));
        due(20, x.better(5));
        folded(x, 10);
        due(0, x.better(0));
        due(4, x.better(1));
    }

    @Says(promise = 39, value = "no GUEST LIKES it less than now, and one more.")
    static void noneLessAndOneMore() {
        due(0, strip(3, guests(0, 0) + "likes:folds*want;").better(5));
        due(0, strip(3, guests(0, 2) + "likes:folds*(want-1);").better(5));
        due(0, strip(3, guests(2, 0) + "likes:folds*(want-1);").better(5));
        due(20, strip(3, guests(1, 1, 1, 2) + "likes:folds*(want-1);").better(5));
        due(0, strip(3, guests(2, 2, 2, 0) + "likes:folds*(want-1);").better(5));
        due(0, strip(3, guests(1) + "likes:0-folds;").better(5));
        due(0, strip(3, "likes:folds;").better(5));
        due(0, new NapkinDeeds().better(5));
    }

    @Says(promise = 39, value = "throws IllegalArgumentException")
    static void notSoManyFoldsForBetter() {
        for (int n : NOT_SO_MANY_FOLDS) {
            refused(ARGUMENT, x -> x.better(n));
            refused(ARGUMENT, NapkinDeeds::new, x -> x.better(n));
        }
    }

    // ---- promise 40

    @Says(promise = 40, value = "The GUEST that gains most (LIKES by what best() of it alone would be, by n FOLDS at most, less LIKES now), the first; NONE: no GUESTS.")
    static void whoGainsMost() {
        NapkinDeeds x = strip(6, guests(1, 1, 1, 2) + "likes:folds*want;");
        due(0, x.keenest(0));
        due(3, x.keenest(1));
        due(3, x.keenest(5));
        NapkinDeeds gain = strip(3, guests(50, 1) + "likes:want+guest*folds;");
        due(0, gain.keenest(0));
        due(1, gain.keenest(1));
        NapkinDeeds worse = strip(3, guests(50, 1) + "likes:0-folds*want;");
        due(0, worse.keenest(5));
        folded(worse, 10);
        due(0, worse.keenest(1));
    }

    @Says(promise = 40, value = "the first; NONE: no GUESTS.")
    static void theFirstOrNone() {
        due(0, strip(6, guests(3, 3, 3, 3) + "likes:folds*want;").keenest(5));
        due(1, strip(6, guests(2, 3, 3, 1) + "likes:folds*want;").keenest(5));
        due(0, strip(6, guests(5)).keenest(0));
        due(-1, strip(6, "likes:folds;").keenest(5));
        due(-1, strip(6).keenest(0));
        due(-1, new NapkinDeeds().keenest(5));
    }

    @Says(promise = 40, value = "by n FOLDS at most, less LIKES now")
    static void theGreatestGainThereCanBe() {
        NapkinDeeds x = strip(2, guests(1, 2) + "likes:(folds*2-1)*want*999*999;");
        due(-998001, x.likes(0));
        due(-1000000, x.likes(1));
        due(1, x.keenest(1));
        NapkinDeeds y = strip(6, guests(99, 1) + "likes:folds*(2-guest)*(2-folds)*(1-guest)+guest*folds*folds;");
        due(0, y.keenest(1));
        due(1, y.keenest(2));
        due(1, y.keenest(5));
    }

    @Says(promise = 40, value = "throws IllegalArgumentException")
    static void notSoManyFoldsForTheKeenest() {
        for (int n : NOT_SO_MANY_FOLDS) {
            refused(ARGUMENT, x -> x.keenest(n));
            refused(ARGUMENT, NapkinDeeds::new, x -> x.keenest(n));
        }
    }
}
