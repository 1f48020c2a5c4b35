/** The edges that block 4 and promises 16 to 21 name of WORDS: word, join, letter, about, entryOf, size. */
public final class WordsEdgeTest {
    private static final long LOST = Edge.LOST;
    private static final int UNKNOWN = Edge.UNKNOWN, OUTSIDE = Edge.OUTSIDE, FULL = Edge.FULL;
    private static final int NULL = Edge.NULL, CAST = Edge.CAST, INDEX = Edge.INDEX, SIZE = Edge.SIZE;
    private static final int LEAST = Edge.LEAST, MOST = Edge.MOST;

    public static void main(String[] args) {
        Edge e = new Edge();
        wordFirst(e);
        wordFaults(e);
        wordSize(e);
        wordCells(e);
        wordLength(e);
        wordLetters(e);
        wordFull(e);
        join(e);
        letter(e);
        aboutNumbers(e);
        aboutAllowed(e);
        aboutRing(e);
        aboutRepeats(e);
        entryOf(e);
        size(e);
        e.end();
    }

    private static void wordFirst(Edge e) {
        e.sentence(16, "UNKNOWN (SHEETS 0 .. 3)");
        e.stock();
        e.refusedForEach(UNKNOWN, new int[] {-1, 4, LEAST, MOST}, 0, "word", 0, 0, 0, 1);
        e.due(NULL, "word", 3, 0, 0, 1);
        e.due(2, "word", 0, 0, 0, 1);
        e.sentence(16, "UNKNOWN goes ahead of OUTSIDE, of each FAULT and of FULL");
        e.tables(1);
        e.words(10);
        e.refused(UNKNOWN, "word", 4, 3, 0, 1);
        e.refused(UNKNOWN, "word", -1, 0, 99, -1);
        e.refused(UNKNOWN, "word", 4, 0, 0, 13);
        e.refused(UNKNOWN, "word", 4, 0, 0, 1);
        e.sentence(16, "OUTSIDE: lane");
        e.stock();
        e.refusedForEach(OUTSIDE, new int[] {-1, 3, LEAST, MOST}, 1, "word", 0, 0, 0, 1);
        for (int lane = 0; lane < 3; lane++) {
            e.due(2 + lane, "word", lane, lane, 0, 1);
        }
        e.sentence(16, "OUTSIDE: lane goes ahead of CAST, NULL, SIZE, INDEX, a LETTER and FULL");
        e.tables(1);
        e.words(10);
        e.fill(0, 0, 1, 1);
        e.refused(OUTSIDE, "word", 0, 3, 0, 1);
        e.refused(OUTSIDE, "word", 0, -1, 2, 1);
        e.refused(OUTSIDE, "word", 0, 3, 0, -1);
        e.refused(OUTSIDE, "word", 1, 3, 0, 1);
        e.refused(OUTSIDE, "word", 1, -1, 0, -1);
    }

    private static void wordFaults(Edge e) {
        e.sentence(16, "FAULTS CAST");
        e.stock();
        for (int k = 0; k < 3; k++) {
            e.refused(CAST, "word", k, (k + 1) % 3, 0, 1);
            e.refused(CAST, "word", k, (k + 2) % 3, 0, 1);
        }
        e.sentence(16, "CAST goes ahead of SIZE, INDEX, n, a LETTER and FULL");
        e.tables(1);
        e.words(10);
        e.fill(0, 1, Edge.all(13, 1));
        e.refused(CAST, "word", 0, 0, 0, -1);
        e.refused(CAST, "word", 0, 2, 13, 1);
        e.refused(CAST, "word", 0, 0, 0, 0);
        e.refused(CAST, "word", 0, 2, 0, 13);
        e.refused(CAST, "word", 0, 0, 0, 1);
        e.sentence(16, "nothing is no CAST");
        e.stock();
        e.refusedForEach(NULL, Edge.from(0, 2), 1, "word", 3, 0, 0, 1);
        e.due(1, "lose", 2);
        e.refusedForEach(NULL, Edge.from(0, 2), 1, "word", 2, 0, 0, 1);
        e.sentence(16, "NULL goes ahead of SIZE, INDEX, n and FULL");
        e.tables(1);
        e.words(10);
        e.refused(NULL, "word", 0, 0, 0, -1);
        e.refused(NULL, "word", 0, 1, -1, 1);
        e.refused(NULL, "word", 0, 2, 0, 0);
        e.refused(NULL, "word", 0, 0, 0, 13);
        e.refused(NULL, "word", 0, 0, 0, 1);
    }

    private static void wordSize(Edge e) {
        e.sentence(16, "SIZE: n is below 0");
        e.stock();
        e.refusedForEach(SIZE, new int[] {-1, -2, -12, LEAST}, 3, "word", 0, 0, 0, 0);
        e.refused(OUTSIDE, "word", 0, 0, 0, 0);
        e.due(2, "word", 0, 0, 0, 1);
        e.sentence(16, "SIZE goes ahead of INDEX and FULL");
        e.tables(1);
        e.words(10);
        e.fill(0, 0, 1);
        e.fill(1, 0);
        e.refused(SIZE, "word", 0, 0, -1, -1);
        e.refused(SIZE, "word", 0, 0, 2, -1);
        e.refused(SIZE, "word", 0, 0, 2, LEAST);
        e.refused(SIZE, "word", 0, 0, MOST, -1);
        e.refused(SIZE, "word", 0, 0, LEAST, LEAST);
        e.refused(SIZE, "word", 1, 0, 0, -1);
    }

    private static void wordCells(Edge e) {
        e.sentence(16, "INDEX: not all cells are there");
        e.tables(1);
        e.fill(0, 0, Edge.all(40, 0));
        e.fill(1, 1, 0, 0, 0);
        e.fill(2, 2);
        e.refusedForEach(INDEX, new int[] {-1, 40, 41, LEAST, MOST}, 2, "word", 0, 0, 0, 1);
        e.refusedForEach(INDEX, new int[] {-1, 29, 40, MOST, MOST - 11, MOST - 10}, 2, "word", 0, 0, 0, 12);
        e.refused(INDEX, "word", 1, 1, 0, 4);
        e.refused(INDEX, "word", 1, 1, 1, 3);
        e.refused(INDEX, "word", 1, 1, -1, 3);
        e.refused(INDEX, "word", 2, 2, 0, 1);
        e.due(0, "word", 0, 0, 39, 1);
        e.due(1, "word", 0, 0, 28, 12);
        e.due(2, "word", 1, 1, 0, 3);
        e.due(3, "word", 1, 1, 2, 1);
        e.sentence(16, "INDEX goes ahead of n, of a LETTER and of FULL");
        e.tables(1);
        e.words(10);
        e.fill(0, 0, Edge.all(13, 1));
        e.refused(INDEX, "word", 0, 0, 0, 14);
        e.refused(INDEX, "word", 0, 0, 1, 13);
        e.refused(INDEX, "word", 0, 0, 0, MOST);
        e.refused(INDEX, "word", 0, 0, MOST, MOST);
        e.refused(INDEX, "word", 0, 0, 12, 2);
        e.refused(INDEX, "word", 0, 0, -1, 1);
        e.sentence(16, "INDEX: of 0 cells none is wanting, wherever they should begin");
        e.tables(1);
        e.fill(0, 0, 0);
        e.fill(1, 1);
        e.refusedForEach(OUTSIDE, new int[] {0, 1, 2, -1, MOST, LEAST}, 2, "word", 0, 0, 0, 0);
        e.refused(OUTSIDE, "word", 1, 1, 0, 0);
    }

    private static void wordLength(Edge e) {
        e.sentence(16, "OUTSIDE: n is not 1 .. 12");
        e.stock();
        e.fill(0, 0, Edge.all(40, 1));
        e.refusedForEach(OUTSIDE, new int[] {0, 13, 14, 40}, 3, "word", 0, 0, 0, 0);
        e.due(2, "word", 0, 0, 0, 1);
        e.due(1, "about", 2, 0);
        e.due(3, "word", 0, 0, 0, 12);
        e.due(12, "about", 3, 0);
        e.sentence(16, "OUTSIDE: n goes ahead of a LETTER and of FULL");
        e.tables(1);
        e.words(10);
        e.fill(0, 0, Edge.all(13, 1));
        e.refused(OUTSIDE, "word", 0, 0, 0, 13);
        e.refused(OUTSIDE, "word", 0, 0, 0, 0);
    }

    private static void wordLetters(Edge e) {
        e.sentence(16, "UNKNOWN: a LETTER is no TABLE");
        e.stock();
        for (int letter : new int[] {-1, 2, 5, 6, LEAST, MOST}) {
            e.fill(2, 2, letter, 0, letter);
            e.refused(UNKNOWN, "word", 2, 2, 0, 1);
            e.refused(UNKNOWN, "word", 2, 2, 0, 2);
            e.refused(UNKNOWN, "word", 2, 2, 1, 2);
        }
        e.due(2, "word", 2, 2, 1, 1);
        e.sentence(16, "UNKNOWN: a LETTER is no TABLE: the last of 12, of six TABLES");
        e.tables(6);
        e.fill(0, 0, 5, 4, 3, 2, 1, 0, 5, 5, 5, 5, 5, 6);
        e.refused(UNKNOWN, "word", 0, 0, 0, 12);
        e.due(1, "put", 0, 11, 5);
        e.due(0, "word", 0, 0, 0, 12);
        e.due(5, "letter", 0, 11);
        e.sentence(16, "UNKNOWN: a LETTER is no TABLE: cells ahead and behind are none");
        e.tables(1);
        e.fill(0, 0, 9, 0, -9);
        e.due(0, "word", 0, 0, 1, 1);
        e.sentence(16, "UNKNOWN: a LETTER, as its cell was cut to the LANE");
        e.tables(2);
        e.fill(0, 0, 257, 256);
        e.fill(1, 1, 257, 65536);
        e.due(0, "word", 0, 0, 0, 2);
        e.due(1, "letter", 0, 0);
        e.due(0, "letter", 0, 1);
        e.refused(UNKNOWN, "word", 1, 1, 0, 1);
        e.due(1, "word", 1, 1, 1, 1);
        e.sentence(16, "UNKNOWN: there are no TABLES");
        e.fill(0, 0, 0);
        e.refused(UNKNOWN, "word", 0, 0, 0, 1);
        e.sentence(16, "UNKNOWN: a LETTER goes ahead of FULL");
        e.tables(1);
        e.words(10);
        e.fill(0, 0, 0, 1);
        e.refused(UNKNOWN, "word", 0, 0, 1, 1);
        e.refused(UNKNOWN, "word", 0, 0, 0, 2);
        e.refused(FULL, "word", 0, 0, 0, 1);
    }

    private static void wordFull(Edge e) {
        e.sentence(16, "FULL (WORDS, 10 ever kept, numbered as they come)");
        e.tables(1);
        e.fill(0, 0, 0);
        for (int w = 0; w < 10; w++) {
            e.due(w, "word", 0, 0, 0, 1);
            e.due(w + 1, "told", 3);
        }
        e.refused(FULL, "word", 0, 0, 0, 1);
        e.due(FULL, "word", 0, 0, 0, 1);
        e.due(FULL, "join", 0, 0);
        e.due(10, "told", 3);
        e.sentence(16, "a WORD that is not ALLOWED is kept, too");
        e.tables(1);
        e.due(1, "may", 0, 0, 0);
        e.word(0, 0);
        e.due(0, "about", 0, 1);
    }

    private static void join(Edge e) {
        e.sentence(17, "UNKNOWN");
        e.stock();
        e.refusedForEach(UNKNOWN, new int[] {-1, 2, 9, 10, LEAST, MOST}, 0, "join", 0, 0);
        e.refusedForEach(UNKNOWN, new int[] {-1, 2, 9, 10, LEAST, MOST}, 1, "join", 0, 0);
        e.refused(UNKNOWN, "join", 2, 2);
        e.due(2, "join", 1, 1);
        e.sentence(17, "UNKNOWN: no WORD is kept");
        e.tables(1);
        e.refused(UNKNOWN, "join", 0, 0);
        e.sentence(17, "OUTSIDE: it would have more than 12 LETTERS");
        e.tables(2);
        e.word(0, 0, 0, 0, 0, 0);
        e.word(1, 1, 1, 1, 1, 1, 1);
        e.word(0, 1, 0, 1, 0, 1, 0, 1, 0, 1, 0);
        e.word(1);
        e.word(1, 1);
        e.word(1, 1, 1, 1, 1, 1, 1, 1, 1, 1, 1, 1);
        e.refused(OUTSIDE, "join", 0, 1);
        e.refused(OUTSIDE, "join", 1, 0);
        e.refused(OUTSIDE, "join", 2, 4);
        e.refused(OUTSIDE, "join", 4, 2);
        e.refused(OUTSIDE, "join", 5, 3);
        e.refused(OUTSIDE, "join", 5, 5);
        e.due(6, "join", 0, 0);
        e.due(12, "about", 6, 0);
        e.due(7, "join", 2, 3);
        e.due(1, "letter", 7, 11);
        e.due(0, "letter", 7, 10);
        e.due(8, "join", 3, 2);
        e.due(1, "letter", 8, 0);
        e.due(0, "letter", 8, 11);
        e.sentence(17, "UNKNOWN goes ahead of OUTSIDE and of FULL");
        e.tables(1);
        e.words(10);
        e.refused(UNKNOWN, "join", 0, 10);
        e.refused(UNKNOWN, "join", -1, 0);
        e.sentence(17, "OUTSIDE goes ahead of FULL");
        e.tables(1);
        e.word(0, 0, 0, 0, 0, 0, 0);
        e.words(9);
        e.refused(OUTSIDE, "join", 0, 0);
        e.refused(FULL, "join", 0, 1);
        e.sentence(17, "FULL (10 ever kept)");
        e.tables(1);
        e.words(9);
        e.due(9, "join", 0, 8);
        e.refused(FULL, "join", 0, 0);
        e.refused(FULL, "join", 9, 9);
        e.due(FULL, "join", 0, 0);
        e.due(10, "told", 3);
    }

    private static void letter(Edge e) {
        e.sentence(18, "UNKNOWN: WORD");
        e.stock();
        e.due(0, "letter", 0, 0);
        e.due(1, "letter", 1, 0);
        e.refusedForEach(UNKNOWN, new int[] {-1, 2, 10, LEAST, MOST}, 0, "letter", 0, 0);
        e.sentence(18, "UNKNOWN: WORD, of ten");
        e.tables(1);
        e.words(10);
        e.due(0, "letter", 9, 0);
        e.refused(UNKNOWN, "letter", 10, 0);
        e.sentence(18, "UNKNOWN: i");
        e.tables(2);
        e.word(1);
        e.word(0, 0, 0, 0, 0, 0, 0, 0, 0, 0, 0, 1);
        e.due(1, "letter", 0, 0);
        e.refusedForEach(UNKNOWN, new int[] {-1, 1, 11, 12, LEAST, MOST}, 1, "letter", 0, 0);
        e.due(0, "letter", 1, 0);
        e.due(1, "letter", 1, 11);
        e.refusedForEach(UNKNOWN, new int[] {-1, 12, LEAST, MOST}, 1, "letter", 1, 0);
        e.sentence(18, "UNKNOWN: what an earlier WORD had there is none of this one");
        e.tables(2);
        e.word(1, 1, 1);
        e.word(1, 1, 1);
        e.due(1, "begin", 2, 0);
        e.tables(1);
        e.word(0);
        e.due(0, "letter", 0, 0);
        e.refused(UNKNOWN, "letter", 0, 1);
        e.due(1, "join", 0, 0);
        e.refused(UNKNOWN, "letter", 1, 2);
    }

    private static void aboutNumbers(Edge e) {
        e.sentence(19, "UNKNOWN");
        e.stock();
        for (int what = 0; what < 4; what++) {
            e.refusedForEach(UNKNOWN, new int[] {-1, 2, 10, LEAST, MOST}, 0, "about", 0, what);
        }
        e.sentence(19, "OUTSIDE");
        e.stock();
        e.refusedForEach(OUTSIDE, new int[] {-1, 4, LEAST, MOST}, 1, "about", 0, 0);
        e.due(2, "about", 0, 0);
        e.due(1, "about", 0, 3);
        e.sentence(19, "UNKNOWN goes ahead of OUTSIDE");
        e.refused(UNKNOWN, "about", 0, 4);
        e.stock();
        e.refused(UNKNOWN, "about", 2, 4);
        e.refused(UNKNOWN, "about", -1, -1);
        e.sentence(19, "0 how many LETTERS: 1, 12");
        e.tables(1);
        e.word(0);
        e.word(Edge.all(12, 0));
        e.due(1, "about", 0, 0);
        e.due(12, "about", 1, 0);
    }

    private static void aboutAllowed(Edge e) {
        e.sentence(19, "1 whether it is ALLOWED: of one LETTER always");
        e.tables(2);
        e.mays("00", "00");
        e.word(0);
        e.word(1, 0);
        e.due(1, "about", 0, 1);
        e.due(0, "about", 1, 1);
        e.sentence(19, "1 whether it is ALLOWED: each LETTER, the first pair and the last");
        e.tables(2);
        e.word(0, 1, 1, 1, 1, 1, 1, 1, 1, 1, 1, 0);
        e.due(1, "about", 0, 1);
        e.due(1, "may", 0, 1, 0);
        e.due(0, "about", 0, 1);
        e.due(1, "may", 0, 1, 1);
        e.due(1, "may", 1, 0, 0);
        e.due(0, "about", 0, 1);
        e.due(1, "may", 1, 0, 1);
        e.due(1, "may", 0, 0, 0);
        e.due(1, "about", 0, 1);
    }

    private static void aboutRing(Edge e) {
        e.sentence(19, "2 whether it is a RING: the first LETTER may come behind the last one");
        e.tables(2);
        e.word(0);
        e.word(0, 1);
        e.due(1, "about", 0, 2);
        e.due(1, "about", 1, 2);
        e.due(1, "may", 0, 0, 0);
        e.due(0, "about", 0, 2);
        e.due(1, "about", 1, 2);
        e.due(1, "may", 1, 0, 0);
        e.due(0, "about", 1, 2);
        e.due(1, "may", 1, 0, 1);
        e.due(1, "may", 0, 1, 0);
        e.due(0, "about", 1, 2);
        e.sentence(19, "2 whether it is a RING: no WORD taken twice or more");
        e.tables(2);
        e.word(0, 0);
        e.word(0, 1, 0, 1);
        e.word(0, 0, 1, 0, 0, 1, 0, 0, 1, 0, 0, 1);
        for (int w = 0; w < 3; w++) {
            e.due(0, "about", w, 2);
        }
        e.sentence(19, "2 whether it is a RING: the first of all WORDS that it becomes, of 12 LETTERS");
        e.tables(2);
        e.word(0, 0, 0, 0, 0, 0, 0, 0, 0, 0, 0, 1);
        e.word(1, 0, 0, 0, 0, 0, 0, 0, 0, 0, 0, 0);
        e.word(0, 0, 0, 0, 0, 0, 0, 0, 0, 0, 1, 0);
        e.word(0, 1, 1, 1, 1, 1, 1, 1, 1, 1, 1, 1);
        e.word(0, 0, 1, 1, 0, 0, 1, 0, 0, 1, 1, 1);
        e.word(0, 0, 1, 0, 0, 1, 1, 1, 0, 0, 1, 1);
        int[] isRing = {1, 0, 0, 1, 0, 1};
        for (int w = 0; w < 6; w++) {
            e.due(isRing[w], "about", w, 2);
        }
    }

    private static void aboutRepeats(Edge e) {
        e.sentence(19, "3 how often it is some WORD taken one behind the other (1: none but itself)");
        int[] letters = {1, 2, 3, 4, 6, 12};
        for (int period : letters) {
            e.anew();
            e.tables(2);
            int[] word = new int[12];
            for (int i = 0; i < 12; i++) {
                word[i] = i % period == period - 1 ? 1 : 0;
            }
            e.word(word);
            e.due(12 / period, "about", 0, 3);
        }
        e.sentence(19, "3 how often: 1 where its length would let it be more");
        e.tables(2);
        e.word(0);
        e.word(0, 1);
        e.word(0, 1, 0);
        e.word(0, 0, 1, 1);
        e.word(0, 1, 0, 1, 0);
        e.word(0, 0, 0, 0, 0, 0, 0, 0, 0, 0, 0, 1);
        for (int w = 0; w < 6; w++) {
            e.due(1, "about", w, 3);
        }
        e.sentence(19, "3 how often: ALLOWED or not");
        e.tables(1);
        e.due(1, "may", 0, 0, 0);
        e.word(Edge.all(11, 0));
        e.due(11, "about", 0, 3);
    }

    private static void entryOf(Edge e) {
        e.sentence(20, "LOST: UNKNOWN: WORD");
        e.stock();
        e.due(0, "entryOf", 0, 0, 0);
        e.due(1, "entryOf", 0, 1, 0);
        e.due(1, "entryOf", 1, 0, 0);
        e.refusedForEach(LOST, new int[] {-1, 2, 10, LEAST, MOST}, 0, "entryOf", 0, 0, 0);
        for (int d = 2; d <= 3; d++) {
            e.sentence(20, "LOST: UNKNOWN: r, c (D is " + d + ")");
            e.due(1, "begin", d, 0);
            e.table(Edge.all(d * d, 4));
            e.word(0);
            e.due(4, "entryOf", 0, d - 1, 0);
            e.due(4, "entryOf", 0, 0, d - 1);
            e.refusedForEach(LOST, new int[] {-1, d, LEAST, MOST}, 1, "entryOf", 0, 0, 0);
            e.refusedForEach(LOST, new int[] {-1, d, LEAST, MOST}, 2, "entryOf", 0, 0, 0);
        }
        e.sentence(20, "its PRODUCT: the greatest and the least entry there can be");
        e.due(1, "begin", 3, 0);
        e.table(Edge.all(9, 9));
        e.table(Edge.all(9, -9));
        e.word(Edge.all(12, 0));
        e.word(1, 0, 0, 0, 0, 0, 0, 0, 0, 0, 0, 0);
        e.due(50031545098999707L, "entryOf", 0, 2, 2);
        e.due(-50031545098999707L, "entryOf", 1, 0, 2);
        e.sentence(20, "its PRODUCT: rests of 12 LETTERS");
        e.due(1, "begin", 3, 97);
        e.table(Edge.all(9, -9));
        e.word(Edge.all(12, 0));
        e.due(restOfAllNines(12), "entryOf", 0, 1, 1);
        e.sentence(20, "its PRODUCT: the first one leftmost");
        e.table(1, 1, 0, 0);
        e.table(0, 0, 0, 1);
        e.word(0, 1);
        e.word(1, 0);
        e.due(1, "entryOf", 0, 0, 1);
        e.due(0, "entryOf", 1, 0, 1);
    }

    /** By 97, each entry of so many TABLES of -9 all over, D 3: -9 times -27 for each behind the first. */
    private static int restOfAllNines(int letters) {
        int rest = 97 - 9;
        for (int i = 1; i < letters; i++) {
            rest = rest * (97 - 27) % 97;
        }
        return rest;
    }

    private static void size(Edge e) {
        e.sentence(21, "LOST: UNKNOWN");
        e.stock();
        e.refusedForEach(LOST, new int[] {-1, 2, 10, LEAST, MOST}, 0, "size", 0, 0);
        e.refusedForEach(LOST, new int[] {-1, 2, 10, LEAST, MOST}, 0, "size", 0, 1);
        e.sentence(21, "LOST: OUTSIDE");
        e.stock();
        e.refusedForEach(LOST, new int[] {-1, 2, LEAST, MOST}, 1, "size", 0, 0);
        e.due(1, "size", 0, 0);
        e.due(0, "size", 0, 1);
        e.refused(LOST, "size", 2, 2);
        e.sentence(21, "NORM, TRACK: the greatest and the least there can be");
        e.due(1, "begin", 3, 0);
        e.table(Edge.all(9, 9));
        e.table(Edge.all(9, -9));
        e.word(Edge.all(12, 0));
        e.word(1, 0, 0, 0, 0, 0, 0, 0, 0, 0, 0, 0);
        e.due(150094635296999121L, "size", 0, 0);
        e.due(150094635296999121L, "size", 0, 1);
        e.due(150094635296999121L, "size", 1, 0);
        e.due(-150094635296999121L, "size", 1, 1);
        e.sentence(21, "NORM, TRACK: sums of rests, which may be M and more");
        e.due(1, "begin", 3, 2);
        e.table(Edge.all(9, -1));
        e.word(0);
        e.due(3, "size", 0, 0);
        e.due(3, "size", 0, 1);
        e.sentence(21, "NORM, TRACK: 0 all over");
        e.table(0, 0, 0, 0);
        e.word(0);
        e.due(0, "size", 0, 0);
        e.due(0, "size", 0, 1);
    }
}
