/** Promises 16 to 21: word, join, letter, about, entryOf, size. */
public final class WordsTest {
    private static final long LOST = Long.MIN_VALUE;

    public static void main(String[] args) {
        Check check = new Check();
        word(check);
        wordRefusals(check);
        join(check);
        letter(check);
        about(check);
        aboutAllowed(check);
        entryOf(check);
        size(check);
        full(check);
        check.end();
    }

    private static AnyOrder two(Check check) {
        AnyOrder x = new AnyOrder();
        check.table(x, 1, 1, 0, 1);
        check.table(x, 2, 0, 0, -1);
        return x;
    }

    private static void word(Check check) {
        check.part("16 word");
        AnyOrder x = two(check);
        check.fill(x, 0, 0, 9, 0, 1, 1);
        check.fill(x, 1, 1, 9, 0, 1, 1);
        check.due("word(0, 0, 1, 3)", x.word(0, 0, 1, 3), 0);
        check.due("word(1, 1, 2, 1)", x.word(1, 1, 2, 1), 1);
        check.due("told(3)", x.told(3), 2);
        int[] letters = {0, 1, 1};
        for (int i = 0; i < 3; i++) {
            check.due("letter(0, " + i + ")", x.letter(0, i), letters[i]);
        }
        x.put(0, 1, 1);
        check.due("a WORD keeps its own LETTERS", x.letter(0, 0), 0);
        check.due("twelve LETTERS", check.word(x, 0, 0, 0, 0, 0, 0, 0, 0, 0, 0, 0, 1), 2);
        check.due("letter(2, 11)", x.letter(2, 11), 1);
    }

    private static void wordRefusals(Check check) {
        check.part("16 word, refused");
        AnyOrder x = two(check);
        check.fill(x, 0, 0, 0, 1, 2, -1, 0, 0, 0, 0, 0, 0, 0, 0, 0, 0);
        refused(check, x, new int[] {4, 9, 0, 1}, -1, 0);
        refused(check, x, new int[] {-1, 0, 0, -1}, -1, 0);
        refused(check, x, new int[] {0, 3, 0, -1}, -2, 0);
        refused(check, x, new int[] {1, -1, 0, -1}, -2, 0);
        refused(check, x, new int[] {0, 1, 99, -1}, -12, 2);
        refused(check, x, new int[] {1, 1, 99, -1}, -11, 1);
        refused(check, x, new int[] {0, 0, 99, -1}, -14, 4);
        refused(check, x, new int[] {0, 0, 0, Integer.MIN_VALUE}, -14, 4);
        refused(check, x, new int[] {0, 0, 14, 1}, -13, 3);
        refused(check, x, new int[] {0, 0, -1, 1}, -13, 3);
        refused(check, x, new int[] {0, 0, 0, 15}, -13, 3);
        refused(check, x, new int[] {0, 0, Integer.MAX_VALUE, Integer.MAX_VALUE}, -13, 3);
        refused(check, x, new int[] {0, 0, 0, 13}, -2, 0);
        refused(check, x, new int[] {0, 0, 0, 0}, -2, 0);
        refused(check, x, new int[] {0, 0, 99, 0}, -2, 0);
        refused(check, x, new int[] {0, 0, 0, 3}, -1, 0);
        refused(check, x, new int[] {0, 0, 3, 2}, -1, 0);
        check.due("told(3)", x.told(3), 0);
    }

    private static void refused(Check check, AnyOrder x, int[] call, int want, int fault) {
        String text = "word(" + call[0] + ", " + call[1] + ", " + call[2] + ", " + call[3] + ")";
        check.due(text, x.word(call[0], call[1], call[2], call[3]), want);
        check.due("fault() behind " + text, x.fault(), fault);
    }

    private static void join(Check check) {
        check.part("17 join");
        AnyOrder x = two(check);
        check.word(x, 0, 0, 1);
        check.word(x, 1, 0);
        check.due("join(0, 1)", x.join(0, 1), 2);
        int[] joined = {0, 0, 1, 1, 0};
        check.due("about(2, 0)", x.about(2, 0), 5);
        for (int i = 0; i < 5; i++) {
            check.due("letter(2, " + i + ")", x.letter(2, i), joined[i]);
        }
        check.due("join(1, 1)", x.join(1, 1), 3);
        check.due("join(3, 3)", x.join(3, 3), 4);
        check.due("join(4, 3): twelve", x.join(4, 3), 5);
        check.due("join(5, 1)", x.join(5, 1), -2);
        check.due("join(6, 0)", x.join(6, 0), -1);
        check.due("join(0, 6)", x.join(0, 6), -1);
        check.due("join(-1, 0)", x.join(-1, 0), -1);
        check.due("join(5, 6): unknown first", x.join(5, 6), -1);
        check.due("told(3)", x.told(3), 6);
        check.due("the joined one's PRODUCT", x.entryOf(2, 0, 1), productOf(x, 2, 0, 1));
    }

    /** The PRODUCT of a WORD of two-row TABLES, by its LETTERS. */
    private static long productOf(AnyOrder x, int w, int r, int c) {
        long[] row = new long[2];
        row[r] = 1;
        for (int i = 0; i < x.about(w, 0); i++) {
            int t = x.letter(w, i);
            long left = row[0] * x.entry(t, 0, 0) + row[1] * x.entry(t, 1, 0);
            long right = row[0] * x.entry(t, 0, 1) + row[1] * x.entry(t, 1, 1);
            row[0] = left;
            row[1] = right;
        }
        return row[c];
    }

    private static void letter(Check check) {
        check.part("18 letter");
        AnyOrder x = two(check);
        check.word(x, 1, 0);
        check.due("letter(0, 0)", x.letter(0, 0), 1);
        check.due("letter(0, 1)", x.letter(0, 1), 0);
        check.due("letter(0, 2)", x.letter(0, 2), -1);
        check.due("letter(0, -1)", x.letter(0, -1), -1);
        check.due("letter(1, 0)", x.letter(1, 0), -1);
        check.due("letter(-1, 0)", x.letter(-1, 0), -1);
        x.begin(2, 0);
        check.due("letter(0, 0) begun anew", x.letter(0, 0), -1);
    }

    private static void about(Check check) {
        check.part("19 about");
        AnyOrder x = two(check);
        aboutWord(check, x, check.word(x, 1), 1, 1, 1, 1);
        aboutWord(check, x, check.word(x, 0, 0), 2, 1, 0, 2);
        aboutWord(check, x, check.word(x, 0, 1), 2, 1, 1, 1);
        aboutWord(check, x, check.word(x, 1, 0), 2, 1, 0, 1);
        aboutWord(check, x, check.word(x, 0, 1, 0), 3, 1, 0, 1);
        aboutWord(check, x, check.word(x, 0, 1, 0, 1, 0, 1), 6, 1, 0, 3);
        aboutWord(check, x, check.word(x, 0, 0, 1, 0, 0, 1), 6, 1, 0, 2);
        aboutWord(check, x, check.word(x, 0, 1, 0, 1, 1), 5, 1, 1, 1);
        aboutWord(check, x, check.word(x, 1, 1, 1, 1, 1, 1, 1, 1, 1, 1, 1, 1), 12, 1, 0, 12);
        check.due("about(0, 4)", x.about(0, 4), -2);
        check.due("about(0, -1)", x.about(0, -1), -2);
        check.due("about(9, 4)", x.about(9, 4), -1);
        check.due("about(-1, 0)", x.about(-1, 0), -1);
    }

    private static void aboutWord(Check check, AnyOrder x, int w, int... want) {
        for (int what = 0; what < 4; what++) {
            check.due("about(" + w + ", " + what + ")", x.about(w, what), want[what]);
        }
    }

    private static void aboutAllowed(Check check) {
        check.part("19 about, with MAY");
        AnyOrder x = two(check);
        check.word(x, 0, 0, 1);
        x.may(1, 0, false);
        aboutWord(check, x, 0, 3, 1, 0, 1);
        x.may(1, 0, true);
        x.may(0, 0, false);
        aboutWord(check, x, 0, 3, 0, 0, 1);
        check.word(x, 0);
        aboutWord(check, x, 1, 1, 1, 0, 1);
        x.may(0, 0, true);
        aboutWord(check, x, 0, 3, 1, 1, 1);
        aboutWord(check, x, 1, 1, 1, 1, 1);
    }

    private static void entryOf(Check check) {
        check.part("20 entryOf");
        AnyOrder x = two(check);
        check.word(x, 0, 1);
        long[] want = {2, -1, 0, -1};
        for (int cell = 0; cell < 4; cell++) {
            check.due("entryOf, cell " + cell, x.entryOf(0, cell / 2, cell % 2), want[cell]);
        }
        int[][] lost = {{1, 0, 0}, {-1, 0, 0}, {0, 2, 0}, {0, -1, 0}, {0, 0, 2}, {0, 0, -1}};
        for (int[] call : lost) {
            check.due("entryOf of no place", x.entryOf(call[0], call[1], call[2]), LOST);
        }
        x.begin(2, 7);
        check.table(x, -1, 0, 8, 9);
        check.word(x, 0);
        check.word(x, 0, 0);
        check.due("rests of one TABLE", x.entryOf(0, 0, 0), 6);
        check.due("rests of one TABLE, below", x.entryOf(0, 1, 0), 1);
        check.due("rests of two", x.entryOf(1, 1, 0), (8 * 6 + 9 * 8) % 7);
    }

    private static void size(Check check) {
        check.part("21 size");
        AnyOrder x = two(check);
        check.word(x, 0, 1);
        check.due("size(0, 0)", x.size(0, 0), 3);
        check.due("size(0, 1)", x.size(0, 1), 1);
        check.due("size(0, 2)", x.size(0, 2), LOST);
        check.due("size(0, -1)", x.size(0, -1), LOST);
        check.due("size(1, 0)", x.size(1, 0), LOST);
        check.due("size(-1, 1)", x.size(-1, 1), LOST);
        x.begin(3, 0);
        check.table(x, 9, 9, 9, 9, 9, 9, 9, 9, 9);
        check.word(x, 0, 0, 0, 0, 0, 0, 0, 0, 0, 0, 0, 0);
        check.due("greatest NORM", x.size(0, 0), 150094635296999121L);
        check.due("greatest TRACK", x.size(0, 1), 150094635296999121L);
        check.due("greatest entry", x.entryOf(0, 2, 2), 50031545098999707L);
        x.begin(2, 5);
        check.table(x, -1, 0, 0, -1);
        check.word(x, 0);
        check.due("TRACK of rests", x.size(0, 1), 8);
        check.due("NORM of rests", x.size(0, 0), 4);
    }

    private static void full(Check check) {
        check.part("16 word, 17 join, full");
        AnyOrder x = two(check);
        for (int w = 0; w < 9; w++) {
            check.word(x, 1, 0);
        }
        check.due("join(0, 1), the tenth", x.join(0, 1), 9);
        check.due("join(0, 1)", x.join(0, 1), -4);
        check.due("join(0, 10)", x.join(0, 10), -1);
        check.fill(x, 0, 2, 1, 5, 1, 1, 1, 1, 1, 1, 1, 1, 1, 1, 1);
        check.due("word(0, 2, 0, 1)", x.word(0, 2, 0, 1), -4);
        check.due("word(0, 2, 0, 2)", x.word(0, 2, 0, 2), -1);
        check.due("word(0, 2, 0, 13)", x.word(0, 2, 0, 13), -2);
        check.due("told(3)", x.told(3), 10);
        x.begin(2, 0);
        check.table(x, 1, 0, 0, 1);
        check.due("numbers begin anew", check.word(x, 0), 0);
        check.word(x, 0, 0, 0, 0, 0, 0, 0);
        for (int w = 2; w < 10; w++) {
            check.word(x, 0);
        }
        check.due("join(1, 1), outside ahead of full", x.join(1, 1), -2);
    }
}
