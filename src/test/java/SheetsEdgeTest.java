import java.math.BigInteger;

/** The edges that block 4 and promises 22 to 30 name of SHEETS, kinds, HISTORY and FAULTS. */
public final class SheetsEdgeTest {
    private static final int UNKNOWN = Edge.UNKNOWN, OUTSIDE = Edge.OUTSIDE, FULL = Edge.FULL;
    private static final int NULL = Edge.NULL, CAST = Edge.CAST, INDEX = Edge.INDEX, SIZE = Edge.SIZE;
    private static final int LEAST = Edge.LEAST, MOST = Edge.MOST;
    private static final long LOST = Edge.LOST;

    public static void main(String[] args) {
        Edge e = new Edge();
        sheetNumbers(e);
        sheetOrder(e);
        sheetRow(e);
        lose(e);
        put(e);
        cut(e);
        at(e);
        tell(e);
        tellSums(e);
        weigh(e);
        asNumbers(e);
        kinds(e);
        history(e);
        historyWraps(e);
        faultOfEach(e);
        faultStays(e);
        e.end();
    }

    private static void sheetNumbers(Edge e) {
        e.sentence(22, "UNKNOWN (SHEETS 0 .. 3)");
        e.stock();
        e.refusedForEach(UNKNOWN, new int[] {-1, 4, LEAST, MOST}, 0, "sheet", 0, 0, 1);
        e.due(1, "sheet", 0, 0, 1);
        e.due(1, "sheet", 3, 0, 1);
        e.sentence(22, "OUTSIDE: lane");
        e.stock();
        e.refusedForEach(OUTSIDE, new int[] {-1, 3, LEAST, MOST}, 1, "sheet", 0, 0, 1);
        e.due(1, "sheet", 0, 0, 1);
        e.due(1, "sheet", 0, 2, 1);
        e.sentence(22, "OUTSIDE: n above 40");
        e.stock();
        e.refusedForEach(OUTSIDE, new int[] {41, 42, MOST}, 2, "sheet", 0, 0, 0);
        e.due(1, "sheet", 0, 0, 40);
        e.due(1, "put", 0, 39, 1);
        e.due(INDEX, "put", 0, 40, 1);
        e.sentence(22, "SIZE (a length below 0)");
        e.stock();
        e.refusedForEach(SIZE, new int[] {-1, -40, LEAST}, 2, "sheet", 0, 0, 0);
        e.refusedForEach(SIZE, new int[] {-1, -40, LEAST}, 2, "sheet", 3, 2, 0);
        e.due(1, "sheet", 0, 0, 0);
        e.due(INDEX, "put", 0, 0, 1);
    }

    private static void sheetOrder(Edge e) {
        e.sentence(22, "UNKNOWN goes ahead of OUTSIDE and SIZE");
        e.stock();
        e.refused(UNKNOWN, "sheet", 4, 3, 1);
        e.refused(UNKNOWN, "sheet", 4, 0, 41);
        e.refused(UNKNOWN, "sheet", -1, 0, -1);
        e.sentence(22, "OUTSIDE goes ahead of SIZE");
        e.stock();
        e.refused(OUTSIDE, "sheet", 0, 3, -1);
        e.refused(OUTSIDE, "sheet", 0, -1, LEAST);
    }

    private static void sheetRow(Edge e) {
        e.sentence(22, "A SHEET gets a new row (0 at first), also where it has one");
        e.fill(0, 2, Edge.all(40, 7));
        e.due(1, "sheet", 0, 2, 40);
        for (int i = 0; i < 40; i++) {
            e.due(0, "at", 0, i, 2);
        }
        e.sentence(22, "a new row of fewer cells, of more, of another LANE");
        e.fill(0, 2, Edge.all(5, 7));
        e.due(1, "sheet", 0, 2, 3);
        e.lost(3, "at", 0, 3, 2);
        e.due(1, "sheet", 0, 0, 5);
        e.due(0, "at", 0, 4, 0);
        e.lost(2, "at", 0, 4, 2);
        e.sentence(22, "a new row of one SHEET leaves the others");
        for (int k = 0; k < 4; k++) {
            e.fill(k, 1, k + 1);
        }
        e.due(1, "sheet", 1, 1, 1);
        int[] left = {1, 0, 3, 4};
        for (int k = 0; k < 4; k++) {
            e.due(left[k], "at", k, 0, 1);
        }
        e.sentence(22, "a row of 0 cells is no nothing");
        e.due(1, "sheet", 0, 0, 0);
        e.due(INDEX, "put", 0, 0, 0);
        e.lost(3, "at", 0, 0, 0);
        e.lost(2, "at", 0, 0, 1);
        e.due(1, "lose", 0);
    }

    private static void lose(Edge e) {
        e.sentence(23, "UNKNOWN");
        e.stock();
        e.refusedForEach(UNKNOWN, new int[] {-1, 4, LEAST, MOST}, 0, "lose", 0);
        e.sentence(23, "A SHEET has nothing: 1; 0: it had nothing");
        for (int k = 0; k < 4; k++) {
            e.due(0, "lose", k);
            e.due(1, "sheet", k, 0, k * 13);
            e.due(1, "lose", k);
            e.due(0, "lose", k);
            e.refused(NULL, "put", k, 0, 0);
        }
        e.sentence(23, "what a SHEET had is gone, what others have is not");
        e.fill(0, 0, 5);
        e.fill(1, 0, 6);
        e.due(1, "lose", 0);
        e.due(6, "at", 1, 0, 0);
        e.due(1, "sheet", 0, 0, 1);
        e.due(0, "at", 0, 0, 0);
        e.sentence(23, "TABLES and WORDS taken from it stay");
        e.fill(0, 0, 0, 3, 0, 0);
        e.due(0, "table", 0, 0, 0);
        e.due(0, "word", 0, 0, 0, 1);
        e.due(1, "lose", 0);
        e.due(3, "entry", 0, 0, 1);
        e.due(0, "letter", 0, 0);
        e.due(3, "entryOf", 0, 0, 1);
    }

    private static void put(Edge e) {
        e.sentence(24, "UNKNOWN");
        e.stock();
        e.refusedForEach(UNKNOWN, new int[] {-1, 4, LEAST, MOST}, 0, "put", 0, 0, 1);
        e.sentence(24, "UNKNOWN goes ahead of NULL and INDEX");
        e.refused(UNKNOWN, "put", 4, -1, 1);
        e.refused(UNKNOWN, "put", -1, 40, 1);
        e.sentence(24, "NULL");
        e.stock();
        e.refused(NULL, "put", 3, 0, 1);
        e.due(1, "lose", 0);
        e.refused(NULL, "put", 0, 0, 1);
        e.sentence(24, "NULL goes ahead of INDEX");
        e.refusedForEach(NULL, new int[] {-1, 40, LEAST, MOST}, 1, "put", 0, 0, 1);
        e.sentence(24, "INDEX");
        e.fill(0, 0, 1, 2, 3);
        e.fill(1, 1, Edge.all(40, 1));
        e.fill(2, 2);
        e.refusedForEach(INDEX, new int[] {-1, 3, 39, LEAST, MOST}, 1, "put", 0, 0, 9);
        e.refusedForEach(INDEX, new int[] {-1, 40, LEAST, MOST}, 1, "put", 1, 0, 9);
        e.refusedForEach(INDEX, new int[] {-1, 0, 1}, 1, "put", 2, 0, 9);
        e.due(1, "put", 0, 0, 8);
        e.due(1, "put", 0, 2, 9);
        e.due(8, "at", 0, 0, 0);
        e.due(2, "at", 0, 1, 0);
        e.due(9, "at", 0, 2, 0);
        e.due(1, "put", 1, 39, 9);
        e.due(9, "at", 1, 39, 1);
    }

    private static void cut(Edge e) {
        long[][] bytes = {{127, 127}, {128, -128}, {-128, -128}, {-129, 127}, {255, -1}, {256, 0}, {MOST, -1}, {LEAST, 0}};
        long[][] shorts = {{32767, 32767}, {32768, -32768}, {-32768, -32768}, {-32769, 32767}, {65535, -1}, {65536, 0},
            {MOST, -1}, {LEAST, 0}};
        long[][] ints = {{32768, 32768}, {-32769, -32769}, {65536, 65536}, {MOST, MOST}, {LEAST, LEAST}, {MOST - 1, MOST - 1},
            {-1, -1}, {0, 0}};
        long[][][] lanes = {bytes, shorts, ints};
        for (int lane = 0; lane < 3; lane++) {
            e.sentence(24, "what comes to a cell of it is cut to its LANE, " + lane);
            e.due(1, "sheet", 0, lane, 1);
            for (long[] cut : lanes[lane]) {
                e.due(1, "put", 0, 0, (int) cut[0]);
                e.due(cut[1], "at", 0, 0, lane);
            }
        }
    }

    private static void at(Edge e) {
        e.sentence(25, "LOST: UNKNOWN");
        e.stock();
        for (int k : new int[] {-1, 4, LEAST, MOST}) {
            e.lost(0, "at", k, 0, 0);
        }
        e.sentence(25, "LOST: UNKNOWN goes ahead of OUTSIDE and each FAULT");
        e.lost(0, "at", 4, -1, 3);
        e.lost(0, "at", -1, 40, 0);
        e.sentence(25, "LOST: OUTSIDE: lane");
        e.stock();
        for (int lane : new int[] {-1, 3, LEAST, MOST}) {
            e.lost(0, "at", 0, 0, lane);
        }
        e.due(0, "at", 0, 0, 0);
        e.due(2, "at", 2, 5, 2);
        e.sentence(25, "LOST: OUTSIDE: lane goes ahead of CAST, NULL and INDEX");
        e.stock();
        e.lost(0, "at", 0, 99, 3);
        e.lost(0, "at", 3, 0, 3);
        e.lost(0, "at", 3, -1, -1);
        e.sentence(25, "FAULTS CAST");
        e.stock();
        for (int k = 0; k < 3; k++) {
            e.due(1, "at", k, 1, k);
            e.lost(2, "at", k, 1, (k + 1) % 3);
            e.lost(2, "at", k, 1, (k + 2) % 3);
        }
        e.sentence(25, "CAST goes ahead of INDEX");
        e.stock();
        e.lost(2, "at", 0, 99, 1);
        e.lost(2, "at", 1, -1, 2);
        e.sentence(25, "nothing is no CAST");
        for (int lane = 0; lane < 3; lane++) {
            e.lost(1, "at", 0, 0, lane);
        }
        e.due(1, "sheet", 0, 1, 3);
        e.due(1, "lose", 0);
        for (int lane = 0; lane < 3; lane++) {
            e.lost(1, "at", 0, 0, lane);
        }
        e.sentence(25, "NULL goes ahead of INDEX");
        e.lost(1, "at", 0, -1, 0);
        e.lost(1, "at", 0, 40, 2);
        e.sentence(25, "INDEX");
        e.fill(0, 0, 4, 5, 6);
        e.fill(1, 1, Edge.all(40, 7));
        e.due(4, "at", 0, 0, 0);
        e.due(6, "at", 0, 2, 0);
        e.due(7, "at", 1, 39, 1);
        for (int i : new int[] {-1, 3, LEAST, MOST}) {
            e.lost(3, "at", 0, i, 0);
        }
        e.lost(3, "at", 1, 40, 1);
        e.lost(3, "at", 1, -1, 1);
    }

    private static void tell(Edge e) {
        e.sentence(26, "UNKNOWN");
        e.refused(UNKNOWN, "tell", 0);
        e.stock();
        e.refusedForEach(UNKNOWN, new int[] {-1, 2, 5, 6, LEAST, MOST}, 0, "tell", 0);
        e.due(1, "tell", 0);
        e.due(2, "tell", 1);
        e.sentence(26, "UNKNOWN, of six TABLES");
        e.tables(6);
        e.refused(UNKNOWN, "tell", 6);
        e.due(2, "tell", 5);
    }

    private static void tellSums(Edge e) {
        e.sentence(26, "any (1): its TRACK (without M)");
        e.due(1, "begin", 2, 2);
        e.table(9, -1, 9, 9);
        e.table(-9, 9, 9, -9);
        e.due(18, "tell", 0);
        e.due(-18, "tell", 1);
        e.sentence(26, "EVEN (2): what (1) gives, and its greatest entry (without M)");
        e.due(1, "begin", 3, 2);
        e.table(8, 0, 0, 0, 8, 0, 9, 0, 8);
        e.table(new int[9]);
        e.table(Edge.all(9, 9));
        e.due(24 + 9, "tell", 0);
        e.due(0, "tell", 1);
        e.due(27 + 9, "tell", 2);
        e.sentence(26, "EVEN (2): its greatest entry, in each place");
        for (int place = 0; place < 4; place++) {
            e.anew();
            int[] entries = {1, 1, 1, 1};
            entries[place] = 9;
            e.table(entries);
            boolean onTrack = place == 0 || place == 3;
            e.due((onTrack ? 10 : 2) + 9, "tell", 0);
        }
        e.sentence(26, "SHUFFLE (3): what EVEN's gives, and what (1) gives");
        e.table(0, 1, 1, 0);
        e.table(1, 0, 0, 1);
        e.due(0 + 1 + 0, "tell", 0);
        e.due(2 + 1 + 2, "tell", 1);
        e.due(1, "begin", 3, 0);
        e.table(1, 0, 0, 0, 0, 1, 0, 1, 0);
        e.table(1, 0, 0, 0, 1, 0, 0, 0, 1);
        e.due(1 + 1 + 1, "tell", 0);
        e.due(3 + 1 + 3, "tell", 1);
    }

    private static void weigh(Edge e) {
        e.sentence(27, "UNKNOWN");
        e.refused(UNKNOWN, "weigh", 0);
        e.stock();
        e.refusedForEach(UNKNOWN, new int[] {-1, 2, 5, 6, LEAST, MOST}, 0, "weigh", 0);
        e.sentence(27, "its number; SHUFFLES have their own: 60");
        e.tables(5);
        e.table(0, 1, 1, 0);
        for (int t = 0; t < 5; t++) {
            e.due(t, "weigh", t);
        }
        e.due(60, "weigh", 5);
        e.refused(UNKNOWN, "weigh", 6);
    }

    private static void asNumbers(Edge e) {
        e.sentence(28, "UNKNOWN");
        e.refused(UNKNOWN, "as", 0, 0);
        e.stock();
        for (int kind = 0; kind < 3; kind++) {
            e.refusedForEach(UNKNOWN, new int[] {-1, 2, 6, LEAST, MOST}, 0, "as", 0, kind);
        }
        e.sentence(28, "UNKNOWN goes ahead of OUTSIDE");
        e.stock();
        e.refused(UNKNOWN, "as", 2, 3);
        e.refused(UNKNOWN, "as", -1, -1);
        e.sentence(28, "OUTSIDE");
        e.stock();
        e.refusedForEach(OUTSIDE, new int[] {-1, 3, LEAST, MOST}, 1, "as", 0, 0);
        e.refusedForEach(OUTSIDE, new int[] {-1, 3, LEAST, MOST}, 1, "as", 1, 0);
        e.due(1, "as", 0, 0);
        e.due(1, "as", 0, 2);
        e.sentence(28, "CAST: it is none");
        e.stock();
        e.table(1, -1, 0, 0);
        e.refused(CAST, "as", 1, 2);
        e.refused(CAST, "as", 2, 1);
        e.refused(CAST, "as", 2, 2);
        e.sentence(28, "a SHUFFLE is EVEN, each is any");
        e.table(0, 1, 1, 0);
        e.table(2, 0, 0, 0);
        e.table(-1, 0, 0, 0);
        int[] kinds = {2, 1, 0};
        for (int t = 0; t < 3; t++) {
            for (int kind = 0; kind < 3; kind++) {
                e.due(kind <= kinds[t] ? 1 : CAST, "as", t, kind);
            }
        }
    }

    private static void kinds(Edge e) {
        for (int d = 2; d <= 3; d++) {
            for (int place = 0; place < d * d; place++) {
                e.sentence(28, "EVEN: no entry is below 0; D is " + d + ", cell " + place);
                e.due(1, "begin", d, 0);
                int[] entries = Edge.all(d * d, 9);
                entries[place] = 0;
                e.table(entries);
                entries[place] = -1;
                e.table(entries);
                e.due(1, "as", 0, 1);
                e.refused(CAST, "as", 1, 1);
            }
        }
        e.sentence(28, "EVEN: by its entries, not by rests");
        e.due(1, "begin", 2, 2);
        e.table(-1, 0, 0, 0);
        e.refused(CAST, "as", 0, 1);
        int[][] none = {{0, 0, 0, 0}, {1, 0, 0, 0}, {0, 0, 0, 1}, {1, 1, 0, 0}, {0, 0, 1, 1}, {1, 0, 1, 0}, {0, 1, 0, 1}, {1, 1, 1, 1},
            {2, 0, 0, 2}, {1, 0, 0, 2}, {0, 2, 1, 0}, {1, 1, 0, 1}, {1, 0, 1, 1}};
        for (int[] entries : none) {
            e.sentence(28, "SHUFFLE: each row and each column has one 1 and else 0");
            e.table(entries);
            e.due(1, "as", 0, 1);
            e.refused(CAST, "as", 0, 2);
            e.due(0, "weigh", 0);
        }
        e.sentence(28, "SHUFFLE: an EVEN one");
        e.table(2, -1, -1, 2);
        e.table(1, 0, 0, -1);
        e.table(-1, 0, 0, -1);
        e.refusedForEach(CAST, Edge.from(0, 2), 0, "as", 0, 2);
        e.sentence(28, "SHUFFLE: by its entries, not by rests");
        e.due(1, "begin", 2, 2);
        e.table(3, 2, 2, 3);
        e.refused(CAST, "as", 0, 2);
        shufflesOfThree(e);
    }

    private static void shufflesOfThree(Edge e) {
        int[][] orders = {{0, 1, 2}, {0, 2, 1}, {1, 0, 2}, {1, 2, 0}, {2, 0, 1}, {2, 1, 0}};
        e.sentence(28, "SHUFFLE: all six of D 3");
        e.due(1, "begin", 3, 0);
        for (int t = 0; t < 6; t++) {
            int[] entries = new int[9];
            for (int r = 0; r < 3; r++) {
                entries[r * 3 + orders[t][r]] = 1;
            }
            e.table(entries);
            e.due(1, "as", t, 2);
            e.due(60, "weigh", t);
        }
        e.sentence(28, "SHUFFLE: D is 3, one row or one column is not so");
        e.due(1, "begin", 3, 0);
        e.table(1, 0, 0, 0, 1, 0, 0, 0, 0);
        e.table(1, 0, 0, 0, 1, 0, 0, 1, 1);
        e.table(1, 0, 0, 0, 1, 0, 0, 1, 0);
        e.table(1, 0, 0, 0, 1, 1, 0, 0, 0);
        e.table(0, 1, 0, 0, 0, 1, 3, 0, 0);
        e.refusedForEach(CAST, Edge.from(0, 4), 0, "as", 0, 2);
    }

    private static void history(Edge e) {
        e.sentence(29, "HISTORY (0 at first)");
        e.due(0, "history");
        e.sentence(29, "bodies that leave their number as they begin");
        e.table(-1, 0, 0, 0);
        e.table(2, 0, 0, 0);
        e.table(0, 1, 1, 0);
        int[][] left = {{1}, {2, 1}, {3, 2, 1, 1}};
        int due = 0;
        for (int t = 0; t < 3; t++) {
            e.due(t == 0 ? -1 : t == 1 ? 4 : 1, "tell", t);
            for (int number : left[t]) {
                due = 31 * due + number;
            }
            e.due(due, "history");
        }
        e.sentence(29, "WEIGHED by a lent body (4); SHUFFLES have their own (5)");
        e.table(-1, 0, 0, 0);
        e.table(2, 0, 0, 0);
        e.table(0, 1, 1, 0);
        e.due(0, "weigh", 0);
        e.due(4, "history");
        e.due(1, "weigh", 1);
        e.due(4 * 31 + 4, "history");
        e.due(60, "weigh", 2);
        e.due((4 * 31 + 4) * 31 + 5, "history");
        e.sentence(29, "what tells and weighs not leaves no number");
        e.stock();
        e.due(((3 * 31 + 2) * 31 + 1) * 31 + 1, "history");
        e.due(1, "as", 0, 2);
        e.due(2, "length", 1, 0);
        e.due(7, "close");
        e.due(0, "size", 0, 1);
        e.due(((3 * 31 + 2) * 31 + 1) * 31 + 1, "history");
    }

    private static void historyWraps(Edge e) {
        e.sentence(29, "an int that wraps");
        e.tables(1);
        BigInteger due = BigInteger.ZERO;
        boolean wasBelow = false;
        for (int i = 0; i < 40; i++) {
            e.due(0, "weigh", 0);
            due = due.multiply(BigInteger.valueOf(31)).add(BigInteger.valueOf(4));
            e.due(due.intValue(), "history");
            wasBelow |= due.intValue() < 0;
        }
        e.holds("it was below 0 and above", wasBelow);
    }

    private static void faultOfEach(Edge e) {
        e.sentence(30, "0 ahead of any");
        e.due(0, "fault");
        e.due(0, "told", 0);
        e.due(UNKNOWN, "tell", 0);
        e.due(0, "fault");
        e.sentence(30, "it came to none");
        e.tables(1);
        e.fill(0, 0, Edge.all(4, 0));
        comesToNone(e, 1, "table", 0, 0, 0);
        comesToNone(e, 0, "word", 0, 0, 0, 1);
        comesToNone(e, 1, "sheet", 1, 0, 1);
        comesToNone(e, 1, "put", 0, 0, 0);
        comesToNone(e, 0, "at", 0, 0, 0);
        comesToNone(e, 1, "as", 0, 0);
        e.sentence(30, "or was refused: also by FULL and behind a FAULT's place");
        e.tables(6);
        e.words(10);
        e.fill(0, 0, 10, 0, 0, 0, 0);
        e.refused(FULL, "table", 0, 0, 1);
        e.refused(OUTSIDE, "table", 0, 0, 0);
        e.refused(FULL, "word", 0, 0, 1, 1);
        e.refused(UNKNOWN, "word", 0, 0, 0, 1);
        e.refused(OUTSIDE, "word", 0, 0, 0, 0);
        e.sentence(30, "The FAULT of the latest call that names one: the latest of several");
        e.fill(0, 0, 1);
        e.due(NULL, "put", 1, 0, 0);
        e.due(1, "fault");
        e.due(CAST, "table", 0, 1, 0);
        e.due(2, "fault");
        e.due(INDEX, "put", 0, 1, 0);
        e.due(3, "fault");
        e.due(SIZE, "word", 0, 0, 0, -1);
        e.due(4, "fault");
        e.due(LOST, "at", 1, 0, 0);
        e.due(1, "fault");
        e.due(1, "fault");
    }

    private static void comesToNone(Edge e, long want, String name, int... p) {
        e.due(SIZE, "sheet", 0, 0, -1);
        e.due(4, "fault");
        e.due(want, name, p);
        e.due(0, "fault");
    }

    /** For each call that names no FAULT, answered and refused. */
    private static void faultStays(Edge e) {
        e.sentence(30, "of the latest call that names one: a call that names none leaves it");
        e.stock();
        e.due(NULL, "put", 3, 0, 0);
        e.due(1, "entry", 0, 0, 1);
        e.due(LOST, "entry", 9, 0, 1);
        e.due(0, "may", 0, 0, 1);
        e.due(UNKNOWN, "may", 9, 0, 1);
        e.due(2, "length", 1, 0);
        e.due(LOST, "length", 9, 0);
        e.due(0, "extreme", 1, 0, 0);
        e.due(OUTSIDE, "extreme", 9, 0, 0);
        e.due(1, "rings", 1);
        e.due(OUTSIDE, "rings", 9);
        e.due(0, "ringTrack", 1);
        e.due(LOST, "ringTrack", 9);
        e.due(0, "ring", 1, 0);
        e.due(OUTSIDE, "ring", 9, 0);
        e.due(0, "growth", 1, 1, 1);
        e.due(OUTSIDE, "growth", 0, 1, 1);
        e.due(7, "close");
        e.due(7, "closed", 0);
        e.due(OUTSIDE, "closed", 9);
        e.due(0, "product", 0, 0, 0);
        e.due(LOST, "product", 9, 0, 0);
        e.due(2, "times", 0, 0);
        e.due(UNKNOWN, "times", 9, 0);
        e.due(2, "join", 0, 1);
        e.due(UNKNOWN, "join", 9, 1);
        e.due(0, "letter", 0, 0);
        e.due(UNKNOWN, "letter", 9, 0);
        e.due(2, "about", 0, 0);
        e.due(UNKNOWN, "about", 9, 0);
        e.due(0, "entryOf", 0, 0, 0);
        e.due(LOST, "entryOf", 9, 0, 0);
        e.due(1, "size", 0, 0);
        e.due(LOST, "size", 9, 0);
        e.due(1, "lose", 0);
        e.due(UNKNOWN, "lose", 9);
        e.due(1, "tell", 0);
        e.due(UNKNOWN, "tell", 9);
        e.due(60, "weigh", 0);
        e.due(UNKNOWN, "weigh", 9);
        e.due(2, "told", 0);
        e.due(OUTSIDE, "told", 9);
        e.due(OUTSIDE, "begin", 9, 0);
        e.due(1, "fault");
        e.due(1, "begin", 2, 0);
        e.due(1, "fault");
    }
}
