/** Promises 6 to 11: length, extreme, rings, ringTrack, ring, growth. */
public final class LengthsTest {
    private static final long LOST = Long.MIN_VALUE;
    private static final int[] SHEAR = {1, 1, 0, 1};
    private static final int[] OTHER_SHEAR = {1, 0, 1, 1};

    /** Row a tells which TABLES may come behind TABLE a: of 6 LETTERS, 20000 ALLOWED WORDS and 20001. */
    private static final String[] MOST = {"111110", "111111", "101111", "111111", "011101", "111100"};
    private static final String[] TOO_MANY = {"111101", "011101", "111111", "111111", "111010", "111101"};

    public static void main(String[] args) {
        Check check = new Check();
        length(check);
        noughts(check);
        lengthRefusals(check);
        extreme(check);
        rings(check);
        theRing(check);
        growth(check);
        growthRefusals(check);
        spent(check);
        findingsFollowChanges(check);
        check.end();
    }

    private static AnyOrder shears(Check check) {
        AnyOrder x = new AnyOrder();
        check.table(x, SHEAR);
        check.table(x, OTHER_SHEAR);
        return x;
    }

    private static AnyOrder one(Check check, int... entries) {
        AnyOrder x = new AnyOrder();
        check.table(x, entries);
        return x;
    }

    private static void length(Check check) {
        check.part("6 length");
        AnyOrder x = shears(check);
        check.due("length(1, 0)", x.length(1, 0), 2);
        check.due("length(1, 1)", x.length(1, 1), 2);
        check.due("length(1, 2)", x.length(1, 2), 2);
        check.due("length(3, 0)", x.length(3, 0), 8);
        check.due("length(3, 1)", x.length(3, 1), 5);
        check.due("length(3, 2)", x.length(3, 2), 4);
        check.due("length(3, 3)", x.length(3, 3), 0);
        check.due("length(8, 0)", x.length(8, 0), 256);
        x.may(0, 1, false);
        check.due("length(3, 0), 1 never behind 0", x.length(3, 0), 4);
        check.due("length(3, 1), 1 never behind 0", x.length(3, 1), 5);

        AnyOrder y = one(check, -9, 9, 0, -9);
        check.due("sizes are summed over a row", y.length(1, 1), 18);
        check.due("D 2, 8 LETTERS", y.length(8, 1), 9L * 43046721);
        y.begin(3, 0);
        check.table(y, 9, 9, 9, 9, 9, 9, 9, 9, 9);
        check.due("D 3, 8 LETTERS", y.length(8, 1), 282429536481L);
        y.begin(2, 5);
        check.table(y, -1, 6, 0, 5);
        check.due("M holds for one TABLE", y.length(1, 1), 5);
        y.begin(2, 5);
        check.table(y, 3, 1, 1, 2);
        check.due("M holds for two", y.length(2, 1), 0);
    }

    private static void noughts(Check check) {
        check.part("6 length, nought");
        AnyOrder x = new AnyOrder();
        check.table(x, 0, 1, 0, 0);
        check.table(x, 0, 0, 1, 0);
        check.due("length(1, 3)", x.length(1, 3), 0);
        check.due("length(2, 3)", x.length(2, 3), 2);
        check.due("length(3, 3)", x.length(3, 3), 6);
        check.due("length(2, 2)", x.length(2, 2), 0);
        check.due("length(2, 1)", x.length(2, 1), 1);
        check.due("extreme(2, 1, 1)", x.extreme(2, 1, 1), 0);
        check.due("extreme(2, 0, 1)", x.extreme(2, 0, 1), 1);
        check.due("growth(1, 9, 2)", x.growth(1, 9, 2), 1);
        x.may(0, 1, false);
        x.may(1, 0, false);
        check.due("length(2, 3) without them", x.length(2, 3), 2);
        check.due("growth(1, 9, 2) without them", x.growth(1, 9, 2), -1);
    }

    private static void lengthRefusals(Check check) {
        check.part("6 length, refused");
        AnyOrder x = shears(check);
        int[][] outside = {{0, 0}, {9, 0}, {-1, 1}, {1, -1}, {1, 4}, {Integer.MIN_VALUE, 0}, {1, Integer.MAX_VALUE}};
        for (int[] call : outside) {
            check.due("length(" + call[0] + ", " + call[1] + ")", x.length(call[0], call[1]), LOST);
        }
        AnyOrder none = new AnyOrder();
        check.due("none: how many", none.length(8, 0), 0);
        check.due("none: greatest", none.length(8, 1), LOST);
        check.due("none: least", none.length(8, 2), LOST);
        check.due("none: nought", none.length(8, 3), 0);
    }

    private static void extreme(Check check) {
        check.part("7 extreme");
        AnyOrder x = shears(check);
        int[] greatest = {0, 0, 1};
        for (int i = 0; i < 3; i++) {
            check.due("extreme(3, 0, " + i + ")", x.extreme(3, 0, i), greatest[i]);
            check.due("extreme(3, 1, " + i + ")", x.extreme(3, 1, i), 0);
        }
        int[][] outside = {{0, 0, 0}, {9, 0, 0}, {3, -1, 0}, {3, 2, 0}, {3, 0, -1}, {3, 0, 3}, {3, 1, 8}};
        for (int[] call : outside) {
            check.due("extreme outside", x.extreme(call[0], call[1], call[2]), -2);
        }
        AnyOrder y = new AnyOrder();
        check.due("no WORD", y.extreme(2, 0, 0), -9);
        check.due("outside goes ahead of none", y.extreme(2, 0, 2), -2);
        check.table(y, 1, 0, 0, 1);
        check.table(y, 3, 0, 0, 0);
        check.due("extreme(2, 0, 0)", y.extreme(2, 0, 0), 1);
        check.due("extreme(2, 1, 0)", y.extreme(2, 1, 0), 0);
        y.may(1, 1, false);
        check.due("first of several, LETTER 0", y.extreme(2, 0, 0), 0);
        check.due("first of several, LETTER 1", y.extreme(2, 0, 1), 1);
    }

    private static void rings(Check check) {
        check.part("8 rings");
        AnyOrder x = shears(check);
        int[] two = {2, 1, 2, 3, 6, 9, 18, 30};
        for (int n = 1; n <= 8; n++) {
            check.due("rings(" + n + ")", x.rings(n), two[n - 1]);
        }
        check.due("rings(0)", x.rings(0), -2);
        check.due("rings(9)", x.rings(9), -2);
        check.due("rings(-1)", x.rings(-1), -2);
        x.may(0, 0, false);
        check.due("rings(1), 0 never behind 0", x.rings(1), 1);
        check.due("rings(3), 0 never behind 0", x.rings(3), 1);
        x.may(1, 0, false);
        check.due("rings(1), 0 never behind any", x.rings(1), 1);
        check.due("rings(2), 0 never behind any", x.rings(2), 0);
        check.due("rings(3), 0 never behind any", x.rings(3), 0);
        check.due("no TABLES", new AnyOrder().rings(1), 0);
    }

    private static void theRing(Check check) {
        check.part("9 ringTrack, 10 ring");
        AnyOrder x = shears(check);
        check.due("ringTrack(1)", x.ringTrack(1), 2);
        check.due("ring(1, 0)", x.ring(1, 0), 0);
        check.due("ringTrack(2)", x.ringTrack(2), 3);
        check.due("ring(2, 0)", x.ring(2, 0), 0);
        check.due("ring(2, 1)", x.ring(2, 1), 1);
        check.due("ringTrack(3)", x.ringTrack(3), 4);
        check.due("ring(3, 1), the first of two", x.ring(3, 1), 0);
        int[][] outside = {{0, 0}, {9, 0}, {3, -1}, {3, 3}, {-4, 0}};
        for (int[] call : outside) {
            check.due("ring outside", x.ring(call[0], call[1]), -2);
        }
        check.due("ringTrack(0)", x.ringTrack(0), LOST);
        check.due("ringTrack(9)", x.ringTrack(9), LOST);

        AnyOrder y = new AnyOrder();
        check.due("none: ring", y.ring(1, 0), -9);
        check.due("none: outside", y.ring(1, 1), -2);
        check.due("none: ringTrack", y.ringTrack(1), LOST);
        check.table(y, 2, 0, 0, 1);
        check.table(y, -4, 0, 0, 0);
        check.table(y, 4, 0, 0, 0);
        check.due("the size of the TRACK counts, its sign stays", y.ringTrack(1), -4);
        check.due("ring(1, 0)", y.ring(1, 0), 1);
        check.table(y, 0, 0, 0, 0);
        y.begin(2, 0);
        check.table(y, 0, 1, 0, 0);
        check.due("a TRACK of 0 is one, too", y.ringTrack(1), 0);
        check.due("its LETTER", y.ring(1, 0), 0);
        check.due("a WORD twice is no RING", y.ringTrack(2), LOST);
        y.begin(2, 7);
        check.table(y, -1, 0, 0, -1);
        check.due("M is taken of entries, not of the TRACK", y.ringTrack(1), 12);
    }

    private static void growth(Check check) {
        check.part("11 growth");
        AnyOrder x = shears(check);
        check.due("growth(1, 1, 1)", x.growth(1, 1, 1), 0);
        check.due("growth(1, 1, 2)", x.growth(1, 1, 2), 1);
        check.due("growth(2, 1, 1)", x.growth(2, 1, 1), 0);
        check.due("growth(2, 1, 2)", x.growth(2, 1, 2), -1);
        check.due("growth(3, 1, 1)", x.growth(3, 1, 1), -1);
        check.due("growth(8, 5, 7)", x.growth(8, 5, 7), 0);
        check.due("growth(9, 1, 7)", x.growth(9, 1, 7), -1);
        check.due("growth(1, 9, 7)", x.growth(1, 9, 7), 1);
        x.may(0, 1, false);
        check.due("only WORDS that can go round count above", x.growth(1, 1, 7), 0);

        AnyOrder y = one(check, -2, 0, 0, -2);
        check.due("the size of a TRACK counts", y.growth(1, 1, 1), 1);
        check.due("a TRACK of just D times it is not above", y.growth(2, 1, 7), 0);
        check.due("growth(9, 4, 1)", y.growth(9, 4, 1), -1);
        check.due("growth(7, 4, 1)", y.growth(7, 4, 1), 1);
        y.may(0, 0, false);
        check.due("no WORDS of 2 LETTERS: below", y.growth(1, 9, 2), -1);
        check.due("of 1 LETTER there is one", y.growth(1, 9, 1), 0);
        y.begin(2, 0);
        check.table(y, 0, 4, 1, 0);
        check.due("above not at 1", y.growth(7, 4, 1), 0);
        check.due("above at 2", y.growth(7, 4, 2), 1);
        check.due("above at 2, not at 3", y.growth(7, 4, 3), 1);
        check.due("below not at 1", y.growth(9, 4, 1), 0);
        check.due("below at 2", y.growth(9, 4, 2), -1);
        check.due("below at 2, not at 3", y.growth(9, 4, 3), -1);
        y.begin(3, 0);
        check.table(y, 9, 9, 9, 9, 9, 9, 9, 9, 9);
        check.due("great numbers above", y.growth(1, 9, 7), 1);
        check.due("great numbers below none", y.growth(9, 1, 7), 1);
        y.begin(3, 0);
        check.table(y, 3, 0, 0, 0, 3, 0, 0, 0, 3);
        check.due("D 3: a TRACK of just D times it", y.growth(3, 1, 7), 0);
        check.due("D 3: below", y.growth(4, 1, 1), -1);
        check.due("D 3: above", y.growth(8, 3, 1), 1);
    }

    private static void growthRefusals(Check check) {
        check.part("11 growth, refused");
        AnyOrder x = shears(check);
        int[][] outside = {{0, 1, 1}, {10, 1, 1}, {1, 0, 1}, {1, 10, 1}, {1, 1, 0}, {1, 1, 8}, {-1, -1, -1}};
        for (int[] call : outside) {
            check.due("growth outside", x.growth(call[0], call[1], call[2]), -2);
        }
        AnyOrder y = new AnyOrder();
        check.due("no TABLES", y.growth(1, 1, 1), -3);
        check.due("outside goes ahead of state", y.growth(0, 1, 1), -2);
        y.begin(2, 97);
        check.table(y, SHEAR);
        check.due("M", y.growth(1, 1, 1), -3);
    }

    private static AnyOrder six(Check check, String[] may) {
        AnyOrder x = new AnyOrder();
        for (int t = 0; t < 6; t++) {
            check.table(x, 5, 0, 0, 5);
        }
        for (int a = 0; a < 6; a++) {
            for (int b = 0; b < 6; b++) {
                x.may(a, b, may[a].charAt(b) == '1');
            }
        }
        return x;
    }

    private static void spent(Check check) {
        check.part("6 to 11, spent");
        AnyOrder most = six(check, MOST);
        check.due("length(6, 0)", most.length(6, 0), 20000);
        check.due("length(6, 1)", most.length(6, 1), 15625);
        check.due("extreme(6, 0, 5)", most.extreme(6, 0, 5), 0);
        check.holds("rings(6) are found", most.rings(6) > 0);
        check.due("ring(6, 0)", most.ring(6, 0), 0);
        check.due("ringTrack(6)", most.ringTrack(6), 31250);
        check.due("growth(4, 1, 6)", most.growth(4, 1, 6), 1);
        AnyOrder more = six(check, TOO_MANY);
        for (int what = 0; what < 4; what++) {
            check.due("length(6, " + what + ")", more.length(6, what), LOST);
        }
        check.due("extreme(6, 0, 0)", more.extreme(6, 0, 0), -6);
        check.due("extreme(6, 0, 6)", more.extreme(6, 0, 6), -2);
        check.due("rings(6)", more.rings(6), -6);
        check.due("ringTrack(6)", more.ringTrack(6), LOST);
        check.due("ring(6, 0)", more.ring(6, 0), -6);
        check.due("ring(6, 6)", more.ring(6, 6), -2);
        check.due("growth(4, 1, 5)", more.growth(4, 1, 5), 1);
        check.due("growth(4, 1, 6), though above at 1", more.growth(4, 1, 6), -6);
        check.due("growth(4, 1, 7)", more.growth(4, 1, 7), -6);
        check.due("growth(0, 1, 7)", more.growth(0, 1, 7), -2);
        more.may(0, 0, false);
        check.holds("fewer are not spent", more.length(6, 0) < 20001 && more.length(6, 0) > 0);
    }

    private static void findingsFollowChanges(Check check) {
        check.part("6 to 11, after changes");
        AnyOrder x = one(check, 2, 0, 0, 0);
        check.due("one TABLE", x.length(2, 1), 4);
        check.table(x, 3, 0, 0, 0);
        check.due("two TABLES", x.length(2, 1), 9);
        check.due("rings", x.rings(2), 1);
        x.may(1, 1, false);
        check.due("MAY less", x.length(2, 1), 6);
        x.may(0, 1, false);
        check.due("rings less", x.rings(2), 0);
        x.may(0, 1, true);
        check.due("rings again", x.rings(2), 1);
        x.begin(2, 0);
        check.due("begun anew", x.length(2, 0), 0);
        check.due("begun anew: least", x.length(2, 2), LOST);
        check.due("begun anew: rings", x.rings(2), 0);
        check.due("begun anew: ringTrack", x.ringTrack(2), LOST);
        check.due("begun anew: ring", x.ring(2, 0), -9);
        check.due("begun anew: extreme", x.extreme(2, 0, 0), -9);
        check.table(x, 0, 0, 0, 0);
        check.due("nought", x.length(1, 3), 1);
        x.begin(2, 0);
        check.due("begun anew: nought", x.length(1, 3), 0);
    }
}
