/** The edges that block 2 and promises 6 to 11 name: length, extreme, rings, ringTrack, ring, growth. */
public final class LengthsEdgeTest {
    private static final long LOST = Edge.LOST;
    private static final int OUTSIDE = Edge.OUTSIDE, STATE = Edge.STATE, SPENT = Edge.SPENT, NONE = Edge.NONE;
    private static final int LEAST = Edge.LEAST, MOST = Edge.MOST;

    /** Row a tells which TABLES may come behind TABLE a: of 6 LETTERS there are 20000 ALLOWED WORDS, or 20001. */
    private static final String[] JUST = {"111110", "111111", "101111", "111111", "011101", "111100"};
    private static final int RINGS_OF_JUST = 2827;
    private static final String[] ONE_MORE = {"111101", "011101", "111111", "111111", "111010", "111101"};

    public static void main(String[] args) {
        Edge e = new Edge();
        lengthNumbers(e);
        lengthWords(e);
        lengthNoWords(e);
        lengthFollows(e);
        norms(e);
        extremeNumbers(e);
        extremeFirst(e);
        ringsEdges(e);
        ringTrackEdges(e);
        ringEdges(e);
        ringChoice(e);
        spent(e);
        growthNumbers(e);
        growthOrder(e);
        growthAbove(e);
        growthBelow(e);
        e.end();
    }

    private static void lengthNumbers(Edge e) {
        e.sentence(6, "LOST: OUTSIDE: n (LENGTH n, 1 .. 8)");
        e.stock();
        for (int what = 0; what < 4; what++) {
            e.refusedForEach(LOST, new int[] {0, 9, -1, LEAST, MOST}, 0, "length", 0, what);
        }
        e.due(2, "length", 1, 0);
        e.due(3, "length", 2, 0);
        e.due(55, "length", 8, 0);
        e.sentence(6, "LOST: OUTSIDE: what");
        e.stock();
        e.refusedForEach(LOST, new int[] {-1, 4, LEAST, MOST}, 1, "length", 1, 0);
        e.refusedForEach(LOST, new int[] {-1, 4, LEAST, MOST}, 1, "length", 8, 0);
        e.due(2, "length", 1, 0);
        e.due(0, "length", 1, 3);
    }

    private static void lengthWords(Edge e) {
        e.sentence(6, "SPENT: 20000 of them or fewer");
        e.tables(6);
        e.mays(JUST);
        e.due(20000, "length", 6, 0);
        e.due(1, "length", 6, 1);
        e.due(1, "length", 6, 2);
        e.due(0, "length", 6, 3);
        e.due(LOST, "length", 7, 0);
        e.sentence(6, "SPENT: 20001 of them");
        e.tables(6);
        e.mays(ONE_MORE);
        e.refusedForEach(LOST, Edge.from(0, 3), 1, "length", 6, 0);
        e.due(1, "may", 0, 0, 0);
        e.due(17353, "length", 6, 0);
        int[] lastTaken = {0, 8, 8, 8, 7, 6, 5};
        long[] count = {0, 1, 256, 6561, 16384, 15625, 7776};
        for (int tables = 1; tables <= 6; tables++) {
            e.sentence(6, "SPENT: all orders of " + tables + " TABLES");
            e.tables(tables);
            e.due(count[tables], "length", lastTaken[tables], 0);
            e.due(1, "length", lastTaken[tables], 1);
            if (lastTaken[tables] < 8) {
                e.refused(LOST, "length", lastTaken[tables] + 1, 0);
                e.refused(LOST, "length", 8, 3);
            }
        }
    }

    private static void lengthNoWords(Edge e) {
        e.sentence(6, "there is no such WORD (1, 2): there are no TABLES");
        for (int n = 1; n <= 8; n++) {
            e.due(0, "length", n, 0);
            e.refused(LOST, "length", n, 1);
            e.refused(LOST, "length", n, 2);
            e.due(0, "length", n, 3);
        }
        e.sentence(6, "there is no such WORD (1, 2): none may come behind another");
        e.tables(2);
        e.mays("00", "00");
        e.due(2, "length", 1, 0);
        e.due(1, "length", 1, 1);
        e.due(0, "length", 2, 0);
        e.refused(LOST, "length", 2, 1);
        e.refused(LOST, "length", 2, 2);
        e.due(0, "length", 2, 3);
        e.sentence(6, "there is no such WORD (1, 2): orders that end at 3 LETTERS");
        e.tables(3);
        e.mays("011", "001", "000");
        e.due(3, "length", 2, 0);
        e.due(1, "length", 3, 0);
        e.due(1, "length", 3, 2);
        e.due(0, "length", 4, 0);
        e.refused(LOST, "length", 4, 2);
        e.refused(LOST, "length", 8, 1);
    }

    private static void lengthFollows(Edge e) {
        e.sentence(6, "all ALLOWED WORDS: of the TABLES and of MAY as they are now");
        e.due(0, "length", 2, 0);
        e.tables(1);
        e.due(1, "length", 2, 0);
        e.due(1, "length", 2, 1);
        e.tables(1);
        e.due(4, "length", 2, 0);
        e.due(1, "may", 1, 0, 0);
        e.due(3, "length", 2, 0);
        e.due(1, "may", 0, 1, 0);
        e.due(2, "length", 2, 0);
        e.due(1, "may", 0, 1, 1);
        e.due(3, "length", 2, 0);
        e.table(9, 0, 0, 0);
        e.due(8, "length", 2, 0);
        e.due(81, "length", 2, 1);
        e.due(2, "extreme", 2, 0, 0);
        e.due(1, "begin", 2, 0);
        e.due(0, "length", 2, 0);
        e.due(LOST, "length", 2, 1);
        e.due(0, "rings", 1);
        e.table(0, 0, 0, 0);
        e.due(1, "length", 1, 3);
        e.due(1, "rings", 1);
        e.due(1, "begin", 2, 0);
        e.due(0, "length", 1, 3);
        e.due(0, "rings", 1);
        e.due(LOST, "ringTrack", 1);
        e.due(NONE, "ring", 1, 0);
    }

    private static void norms(Edge e) {
        e.sentence(6, "NORM: the greatest over its rows of the sum of sizes");
        e.table(1, 0, -9, -9);
        e.due(18, "length", 1, 1);
        e.due(18, "length", 1, 2);
        e.sentence(6, "NORM: of the first row, of the last one (D is 3)");
        e.due(1, "begin", 3, 0);
        e.table(-9, 9, -9, 8, 8, 8, 0, 0, 0);
        e.table(0, 0, 0, 1, 1, 1, 2, -2, 1);
        e.due(27, "length", 1, 1);
        e.due(5, "length", 1, 2);
        e.sentence(6, "the greatest NORM there can be: 8 LETTERS, D is 3");
        e.due(1, "begin", 3, 0);
        e.table(Edge.all(9, -9));
        e.due(282429536481L, "length", 8, 1);
        e.due(282429536481L, "length", 8, 2);
        e.sentence(6, "how many PRODUCTS are 0 all over: one entry alone is not 0");
        for (int place = 0; place < 4; place++) {
            e.anew();
            int[] entries = new int[4];
            entries[place] = -1;
            e.table(entries);
            e.table(0, 0, 0, 0);
            e.due(1, "length", 1, 3);
            e.due(0, "length", 1, 2);
            e.due(1, "length", 1, 1);
        }
        e.sentence(6, "how many PRODUCTS are 0 all over: all of them, by M");
        e.due(1, "begin", 2, 3);
        e.table(3, 6, 9, -3);
        e.due(1, "length", 8, 3);
        e.due(0, "length", 8, 1);
        e.sentence(6, "how many PRODUCTS are 0 all over: ALLOWED WORDS alone");
        e.table(0, 1, 0, 0);
        e.table(0, 0, 1, 0);
        e.due(2, "length", 2, 3);
        e.due(1, "may", 0, 0, 0);
        e.due(1, "length", 2, 3);
        e.due(1, "may", 1, 1, 0);
        e.due(0, "length", 2, 3);
    }

    private static void extremeNumbers(Edge e) {
        e.sentence(7, "OUTSIDE: n");
        e.stock();
        e.refusedForEach(OUTSIDE, new int[] {0, 9, -1, LEAST, MOST}, 0, "extreme", 0, 0, 0);
        e.due(0, "extreme", 1, 0, 0);
        e.due(1, "extreme", 8, 1, 7);
        e.sentence(7, "OUTSIDE: which");
        e.stock();
        e.refusedForEach(OUTSIDE, new int[] {-1, 2, LEAST, MOST}, 1, "extreme", 1, 0, 0);
        e.due(0, "extreme", 1, 0, 0);
        e.due(0, "extreme", 1, 1, 0);
        e.sentence(7, "OUTSIDE: i is not 0 .. n - 1");
        e.tables(1);
        for (int n = 1; n <= 8; n++) {
            e.refusedForEach(OUTSIDE, new int[] {-1, n, LEAST, MOST}, 2, "extreme", n, 0, 0);
            e.due(0, "extreme", n, 0, 0);
            e.due(0, "extreme", n, 1, n - 1);
        }
        e.sentence(7, "OUTSIDE goes ahead of SPENT");
        e.tables(6);
        e.refused(SPENT, "extreme", 6, 0, 5);
        e.refused(OUTSIDE, "extreme", 6, 0, 6);
        e.refused(OUTSIDE, "extreme", 6, 0, -1);
        e.refused(OUTSIDE, "extreme", 6, 2, 0);
        e.refused(OUTSIDE, "extreme", 9, 0, 0);
        e.sentence(7, "OUTSIDE goes ahead of NONE");
        e.refused(NONE, "extreme", 2, 0, 1);
        e.refused(OUTSIDE, "extreme", 2, 0, 2);
        e.refused(OUTSIDE, "extreme", 2, -1, 0);
        e.sentence(7, "NONE: there is no such WORD");
        for (int n = 1; n <= 8; n++) {
            e.refused(NONE, "extreme", n, 0, 0);
            e.refused(NONE, "extreme", n, 1, n - 1);
        }
        e.tables(1);
        e.due(1, "may", 0, 0, 0);
        e.due(0, "extreme", 1, 0, 0);
        e.refused(NONE, "extreme", 2, 0, 0);
    }

    private static void extremeFirst(Edge e) {
        e.sentence(7, "the first WORD that has it: all have it");
        e.tables(3);
        for (int i = 0; i < 3; i++) {
            e.due(0, "extreme", 3, 0, i);
            e.due(0, "extreme", 3, 1, i);
        }
        e.sentence(7, "the first WORD that has it: ahead of it are less, behind it is its like");
        e.table(1, 0, 0, 0);
        e.table(-3, 0, 0, 0);
        e.table(3, 0, 0, 0);
        e.due(1, "extreme", 1, 0, 0);
        e.due(0, "extreme", 1, 1, 0);
        e.sentence(7, "the first WORD that has it: the least behind others");
        e.table(3, 0, 0, 0);
        e.table(0, 1, 0, 0);
        e.table(0, -1, 0, 0);
        e.due(0, "extreme", 1, 0, 0);
        e.due(1, "extreme", 1, 1, 0);
        e.due(1, "extreme", 2, 1, 0);
        e.due(0, "extreme", 2, 1, 1);
        e.sentence(7, "the first WORD that has it: the greatest is 0");
        e.table(0, 0, 0, 0);
        e.table(0, 0, 0, 0);
        e.due(1, "may", 0, 0, 0);
        e.due(0, "length", 2, 1);
        e.due(0, "extreme", 2, 0, 0);
        e.due(1, "extreme", 2, 0, 1);
        e.due(1, "extreme", 2, 1, 1);
        e.sentence(7, "the first WORD that has it: of ALLOWED ones, in order as rows of LETTERS");
        e.tables(3);
        e.mays("001", "000", "010");
        int[] first = {0, 2, 1};
        for (int i = 0; i < 3; i++) {
            e.due(first[i], "extreme", 3, 0, i);
            e.due(first[i], "extreme", 3, 1, i);
        }
    }

    private static void ringsEdges(Edge e) {
        e.sentence(8, "OUTSIDE");
        e.stock();
        e.refusedForEach(OUTSIDE, new int[] {0, 9, -1, LEAST, MOST}, 0, "rings", 0);
        e.due(1, "rings", 1);
        e.due(5, "rings", 8);
        e.sentence(8, "there is none: no TABLES");
        for (int n = 1; n <= 8; n++) {
            e.due(0, "rings", n);
        }
        e.sentence(8, "that are no WORD taken twice or more: of one TABLE there is one of 1 LETTER");
        e.tables(1);
        e.due(1, "rings", 1);
        for (int n = 2; n <= 8; n++) {
            e.due(0, "rings", n);
        }
        e.sentence(8, "the first LETTER of which may come behind the last one: also of 1 LETTER");
        e.tables(2);
        e.due(2, "rings", 1);
        e.due(1, "may", 0, 0, 0);
        e.due(1, "rings", 1);
        e.due(1, "may", 1, 1, 0);
        e.due(0, "rings", 1);
        e.due(1, "rings", 2);
        e.due(1, "may", 1, 0, 0);
        e.due(0, "rings", 2);
        e.sentence(8, "the first of all WORDS that they become: one of each 3, one of each 8");
        e.tables(2);
        e.due(2, "rings", 3);
        e.due(30, "rings", 8);
        e.sentence(8, "the first of all WORDS that they become: one way round alone");
        e.tables(3);
        e.mays("010", "001", "100");
        e.due(0, "rings", 1);
        e.due(0, "rings", 2);
        e.due(1, "rings", 3);
        e.due(0, "rings", 6);
        e.due(0, "ring", 3, 0);
        e.due(1, "ring", 3, 1);
        e.due(2, "ring", 3, 2);
    }

    private static void ringTrackEdges(Edge e) {
        e.sentence(9, "LOST: OUTSIDE");
        e.stock();
        e.refusedForEach(LOST, new int[] {0, 9, -1, LEAST, MOST}, 0, "ringTrack", 0);
        e.due(0, "ringTrack", 1);
        e.due(0, "ringTrack", 2);
        e.due(1, "ringTrack", 8);
        e.sentence(9, "LOST: there is none");
        e.refusedForEach(LOST, Edge.from(1, 8), 0, "ringTrack", 0);
        e.tables(1);
        e.due(1, "ringTrack", 1);
        e.refusedForEach(LOST, Edge.from(2, 8), 0, "ringTrack", 0);
        e.due(1, "may", 0, 0, 0);
        e.refused(LOST, "ringTrack", 1);
        e.sentence(9, "its TRACK: one below 0, one of 0");
        e.table(-9, 0, 0, -9);
        e.due(-18, "ringTrack", 1);
        e.due(1, "begin", 2, 0);
        e.table(9, 0, 0, -9);
        e.due(0, "ringTrack", 1);
        e.sentence(9, "its TRACK: the greatest and the least there can be, 8 LETTERS, D is 3");
        e.due(1, "begin", 3, 0);
        e.table(Edge.all(9, 9));
        e.table(Edge.all(9, 9));
        e.due(282429536481L, "ringTrack", 8);
        e.due(1, "begin", 3, 0);
        e.table(Edge.all(9, 9));
        e.table(Edge.all(9, -9));
        e.due(-282429536481L, "ringTrack", 8);
    }

    private static void ringEdges(Edge e) {
        e.sentence(10, "OUTSIDE: n");
        e.stock();
        e.refusedForEach(OUTSIDE, new int[] {0, 9, -1, LEAST, MOST}, 0, "ring", 0, 0);
        e.due(0, "ring", 1, 0);
        e.due(1, "ring", 8, 7);
        e.sentence(10, "OUTSIDE: i");
        e.tables(2);
        for (int n = 1; n <= 8; n++) {
            e.refusedForEach(OUTSIDE, new int[] {-1, n, LEAST, MOST}, 1, "ring", n, 0);
            e.due(0, "ring", n, 0);
            e.due(n == 1 ? 0 : 1, "ring", n, n - 1);
        }
        e.sentence(10, "OUTSIDE goes ahead of SPENT");
        e.tables(6);
        e.refused(SPENT, "ring", 6, 5);
        e.refused(OUTSIDE, "ring", 6, 6);
        e.refused(OUTSIDE, "ring", 6, -1);
        e.refused(OUTSIDE, "ring", 9, 0);
        e.sentence(10, "OUTSIDE goes ahead of NONE");
        e.refused(NONE, "ring", 2, 1);
        e.refused(OUTSIDE, "ring", 2, 2);
        e.refused(OUTSIDE, "ring", 2, -1);
        e.sentence(10, "NONE: there is none");
        for (int n = 1; n <= 8; n++) {
            e.refused(NONE, "ring", n, 0);
            e.refused(NONE, "ring", n, n - 1);
        }
        e.tables(1);
        e.due(0, "ring", 1, 0);
        e.refused(NONE, "ring", 2, 0);
        e.due(1, "may", 0, 0, 0);
        e.refused(NONE, "ring", 1, 0);
    }

    private static void ringChoice(Edge e) {
        e.sentence(10, "THE RING: the greatest size of its TRACK; of several the first");
        int[][] tracks = {{4, -4, 4, 0}, {-4, 4, -4, 0}, {3, 4, -4, 1}, {3, -4, 4, 1}, {0, 0, 0, 0}, {0, 0, -1, 2}, {0, 1, 1, 1}};
        for (int[] due : tracks) {
            e.anew();
            for (int t = 0; t < 3; t++) {
                e.table(due[t], 0, 0, 0);
            }
            e.due(due[3], "ring", 1, 0);
            e.due(due[due[3]], "ringTrack", 1);
        }
        e.sentence(10, "THE RING: the greatest size of a TRACK is 0");
        e.table(1, 0, 0, 0);
        e.table(0, 0, 0, 1);
        e.due(0, "ringTrack", 2);
        e.due(0, "ring", 2, 0);
        e.due(1, "ring", 2, 1);
        e.sentence(10, "THE RING: a WORD that goes not round is none, however great its TRACK");
        e.table(1, 0, 0, 0);
        e.table(9, 0, 0, 0);
        e.due(1, "may", 1, 1, 0);
        e.due(0, "ring", 1, 0);
        e.due(1, "ringTrack", 1);
        e.due(9, "length", 1, 1);
        e.sentence(10, "THE RING: a WORD taken twice is none, however great its TRACK");
        e.table(1, 0, 0, 0);
        e.table(9, 0, 0, 0);
        e.due(9, "ringTrack", 2);
        e.due(81, "length", 2, 1);
        e.sentence(10, "THE RING: TRACK is of rests");
        e.due(1, "begin", 2, 97);
        e.table(9, 0, 0, 9);
        e.table(-1, 0, 0, 0);
        e.due(1, "ring", 1, 0);
        e.due(96, "ringTrack", 1);
    }

    private static void spent(Edge e) {
        e.sentence(7, "SPENT: 20000 of them or fewer");
        e.tables(6);
        e.mays(JUST);
        e.due(0, "extreme", 6, 0, 5);
        e.due(SPENT, "extreme", 7, 0, 5);
        e.sentence(7, "SPENT: 20001 of them");
        e.tables(6);
        e.mays(ONE_MORE);
        e.refused(SPENT, "extreme", 6, 0, 0);
        e.refused(SPENT, "extreme", 6, 1, 5);
        e.sentence(8, "SPENT: 20000 of them or fewer");
        e.tables(6);
        e.mays(JUST);
        e.due(RINGS_OF_JUST, "rings", 6);
        e.due(SPENT, "rings", 7);
        e.sentence(8, "SPENT: 20001 of them");
        e.tables(6);
        e.mays(ONE_MORE);
        e.refused(SPENT, "rings", 6);
        e.refused(SPENT, "rings", 8);
        e.sentence(9, "LOST: SPENT");
        e.tables(6);
        e.mays(JUST);
        e.due(1, "ringTrack", 6);
        e.due(LOST, "ringTrack", 7);
        e.sentence(9, "LOST: SPENT: 20001 of them");
        e.tables(6);
        e.mays(ONE_MORE);
        e.refused(LOST, "ringTrack", 6);
        e.sentence(10, "SPENT: 20000 of them or fewer");
        e.tables(6);
        e.mays(JUST);
        e.due(0, "ring", 6, 0);
        e.due(1, "ring", 6, 5);
        e.due(SPENT, "ring", 7, 0);
        e.sentence(10, "SPENT: 20001 of them");
        e.tables(6);
        e.mays(ONE_MORE);
        e.refused(SPENT, "ring", 6, 0);
        e.sentence(11, "SPENT: of a length up to n; 20000 of them or fewer");
        e.tables(6);
        e.mays(JUST);
        e.due(0, "growth", 1, 1, 6);
        e.due(SPENT, "growth", 1, 1, 7);
        e.sentence(11, "SPENT: of a length up to n; 20001 of them");
        e.tables(6);
        e.mays(ONE_MORE);
        e.due(0, "growth", 1, 1, 5);
        e.refused(SPENT, "growth", 1, 1, 6);
        e.refused(SPENT, "growth", 1, 1, 7);
        e.sentence(11, "SPENT: also where a shorter length is ABOVE or BELOW");
        e.tables(6);
        e.due(1, "growth", 1, 3, 5);
        e.refused(SPENT, "growth", 1, 3, 6);
        e.due(-1, "growth", 2, 1, 5);
        e.refused(SPENT, "growth", 2, 1, 6);
        e.sentence(11, "SPENT: of 4 TABLES not at 7, the greatest n");
        e.tables(4);
        e.due(0, "growth", 1, 1, 7);
    }

    private static void growthNumbers(Edge e) {
        String[] named = {"a is not 1 .. 9", "b is not 1 .. 9", "n is not 1 .. 7"};
        int[] beyond = {10, 10, 8};
        for (int at = 0; at < 3; at++) {
            e.sentence(11, "OUTSIDE: " + named[at]);
            e.stock();
            e.refusedForEach(OUTSIDE, new int[] {0, beyond[at], -1, LEAST, MOST}, at, "growth", 1, 1, 1);
            e.dueForEach(0, new int[] {1, 7}, 2, "growth", 1, 1, 1);
            e.dueForEach(-1, new int[] {2, 9}, 0, "growth", 1, 1, 1);
            e.due(0, "growth", 9, 9, 7);
            e.due(1, "growth", 1, 9, 7);
        }
    }

    private static void growthOrder(Edge e) {
        e.sentence(11, "STATE: there are no TABLES");
        e.refused(STATE, "growth", 1, 1, 1);
        e.refused(STATE, "growth", 9, 9, 7);
        e.tables(1);
        e.due(0, "growth", 1, 1, 1);
        e.due(1, "begin", 2, 0);
        e.refused(STATE, "growth", 1, 1, 1);
        e.sentence(11, "STATE: M is above 0");
        e.due(1, "begin", 2, 2);
        e.refused(STATE, "growth", 1, 1, 1);
        e.tables(1);
        e.refused(STATE, "growth", 1, 1, 1);
        e.due(1, "begin", 2, 97);
        e.tables(1);
        e.refused(STATE, "growth", 1, 1, 1);
        e.due(1, "begin", 2, 0);
        e.tables(1);
        e.due(0, "growth", 1, 1, 1);
        e.sentence(11, "OUTSIDE goes ahead of STATE");
        for (int m : new int[] {0, 2}) {
            e.due(1, "begin", 2, m);
            e.refused(OUTSIDE, "growth", 0, 1, 1);
            e.refused(OUTSIDE, "growth", 1, 10, 1);
            e.refused(OUTSIDE, "growth", 1, 1, 8);
        }
        e.sentence(11, "OUTSIDE goes ahead of SPENT");
        e.tables(6);
        e.refused(OUTSIDE, "growth", 10, 1, 7);
        e.refused(OUTSIDE, "growth", 1, 0, 7);
        e.refused(OUTSIDE, "growth", 1, 1, 8);
        e.sentence(11, "STATE goes ahead of SPENT");
        e.due(1, "begin", 2, 2);
        e.tables(6);
        e.refused(STATE, "growth", 1, 1, 7);
    }

    /** A TABLE with one entry in row 0, column 0 has TRACKS that are its powers: ABOVE where (entry b / a)^k is more than D. */
    private static void growthAbove(Edge e) {
        int[][] first = {{1, 3, 1, 1}, {2, 3, 2, 1}, {3, 4, 3, 1}, {4, 5, 4, 1}, {5, 7, 6, 1}, {6, 8, 7, 1}, {7, 5, 9, 2}};
        for (int[] k : first) {
            e.sentence(11, "surely ABOVE by length n: a length k up to n, " + k[0]);
            e.table(k[1], 0, 0, 0);
            e.table(-k[1], 0, 0, 0);
            for (int n = 1; n <= 7; n++) {
                e.due(n >= k[0] ? 1 : 0, "growth", k[2], k[3], n);
            }
        }
        e.sentence(11, "surely ABOVE: D times (D is 3)");
        e.due(1, "begin", 3, 0);
        e.table(6, 0, 0, 0, 0, 0, 0, 0, 0);
        e.due(0, "growth", 5, 1, 6);
        e.due(1, "growth", 5, 1, 7);
        e.sentence(11, "surely ABOVE: is more than D times a^k, not as much");
        e.table(2, 0, 0, 2);
        e.due(0, "growth", 2, 1, 7);
        e.due(0, "growth", 4, 2, 7);
        e.due(1, "growth", 9, 5, 1);
        e.due(1, "begin", 3, 0);
        e.table(9, 0, 0, 0, 9, 0, 0, 0, 9);
        e.due(0, "growth", 9, 1, 7);
        e.due(1, "growth", 8, 1, 1);
        e.sentence(11, "surely ABOVE: the size of a TRACK");
        e.table(-2, 0, 0, -2);
        e.due(1, "growth", 1, 1, 1);
        e.sentence(11, "surely ABOVE: the first LETTER may come behind the last one");
        e.table(9, 0, 0, 0);
        e.table(9, 0, 0, 0);
        e.mays("01", "00");
        e.due(0, "growth", 1, 1, 1);
        e.due(1, "may", 1, 0, 1);
        e.due(0, "growth", 1, 1, 1);
        e.due(1, "growth", 1, 1, 2);
        e.sentence(11, "surely ABOVE: a WORD, if it is no RING, too");
        e.table(0, 9, 9, 0);
        e.due(0, "growth", 1, 1, 1);
        e.due(1, "growth", 1, 1, 2);
    }

    /** Rows 1 c, 0 1 have the TRACK 2 and k times them the NORM 1 + c k: BELOW where (a / b)^k is more than that. */
    private static void growthBelow(Edge e) {
        int[][] first = {{1, 1, 3, 1}, {2, 1, 2, 1}, {3, 1, 5, 3}, {4, 1, 3, 2}, {5, 2, 5, 3}, {6, 1, 7, 5}, {7, 2, 3, 2}};
        for (int[] k : first) {
            e.sentence(11, "surely BELOW by length n: for some k up to n, " + k[0]);
            e.table(1, k[1], 0, 1);
            for (int n = 1; n <= 7; n++) {
                e.due(n >= k[0] ? -1 : 0, "growth", k[2], k[3], n);
            }
        }
        e.sentence(11, "surely BELOW: for some k up to n, if for a longer one not");
        e.table(0, 4, 1, 0);
        e.due(0, "growth", 9, 4, 1);
        e.due(-1, "growth", 9, 4, 2);
        e.due(-1, "growth", 9, 4, 3);
        e.sentence(11, "surely ABOVE: a length k up to n, if a longer one is not");
        e.table(0, 4, 1, 0);
        e.due(0, "growth", 7, 4, 1);
        e.due(1, "growth", 7, 4, 2);
        e.due(1, "growth", 7, 4, 3);
        e.sentence(11, "surely BELOW: less than a^k, not as much");
        e.table(2, 0, 0, 0);
        e.due(0, "growth", 2, 1, 7);
        e.due(0, "growth", 6, 3, 7);
        e.due(-1, "growth", 7, 3, 1);
        e.sentence(11, "surely BELOW: all ALLOWED WORDS' NORMS, not some");
        e.table(1, 0, 0, 0);
        e.table(0, 9, 0, 0);
        e.due(0, "growth", 3, 1, 1);
        e.due(0, "growth", 3, 1, 2);
        e.due(-1, "growth", 4, 1, 2);
        e.due(1, "may", 0, 1, 0);
        e.due(-1, "growth", 3, 1, 2);
        e.sentence(11, "surely BELOW: also if there are none");
        e.table(9, 9, 9, 9);
        e.due(1, "may", 0, 0, 0);
        e.due(0, "growth", 1, 9, 1);
        e.due(-1, "growth", 1, 9, 2);
        e.due(-1, "growth", 1, 9, 7);
        e.sentence(11, "surely BELOW: also if there are none, from 4 LETTERS on");
        e.tables(3);
        e.mays("011", "001", "000");
        e.due(0, "growth", 1, 9, 3);
        e.due(-1, "growth", 1, 9, 4);
        e.sentence(11, "0 neither: great numbers on both sides");
        e.due(1, "begin", 3, 0);
        e.table(Edge.all(9, -9));
        e.due(1, "growth", 9, 9, 7);
        e.due(1, "growth", 1, 9, 7);
        e.due(0, "growth", 9, 1, 1);
        e.due(1, "growth", 9, 1, 2);
        e.due(1, "begin", 3, 0);
        e.table(new int[9]);
        e.due(-1, "growth", 1, 9, 1);
        e.due(-1, "growth", 9, 9, 7);
    }
}
