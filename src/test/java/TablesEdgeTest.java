/** The edges that block 1 and promises 1 to 5 and 31 name: a new object, begin, table, entry, may, told. */
public final class TablesEdgeTest {
    private static final long LOST = Edge.LOST;
    private static final int UNKNOWN = Edge.UNKNOWN, OUTSIDE = Edge.OUTSIDE, STATE = Edge.STATE, FULL = Edge.FULL;
    private static final int NULL = Edge.NULL, CAST = Edge.CAST, INDEX = Edge.INDEX;
    private static final int LEAST = Edge.LEAST, MOST = Edge.MOST;

    public static void main(String[] args) {
        Edge e = new Edge();
        newObject(e);
        begin(e);
        beginStays(e);
        tableFirst(e);
        tableFaults(e);
        tableCells(e);
        tableEntries(e);
        tableLast(e);
        rests(e);
        entry(e);
        may(e);
        told(e);
        e.end();
    }

    private static void newObject(Edge e) {
        e.sentence(1, "D is 2, no M");
        e.due(2, "told", 1);
        e.due(0, "told", 2);
        e.sentence(1, "no TABLES");
        e.due(0, "told", 0);
        e.due(0, "told", 4);
        e.refused(LOST, "entry", 0, 0, 0);
        e.refused(STATE, "close");
        e.sentence(1, "no WORDS");
        e.due(0, "told", 3);
        e.refused(UNKNOWN, "about", 0, 0);
        e.sentence(1, "no SHEETS");
        for (int k = 0; k < 4; k++) {
            e.due(0, "lose", k);
            e.refused(NULL, "put", k, 0, 0);
        }
        e.sentence(1, "no CLOSURE");
        e.refused(STATE, "closed", 0);
        e.refused(LOST, "product", 0, 0, 0);
        e.refused(UNKNOWN, "times", 0, 0);
    }

    private static void begin(Edge e) {
        e.sentence(2, "OUTSIDE (D is 2 or 3)");
        e.stock();
        e.refusedForEach(OUTSIDE, new int[] {1, 4, 0, -1, -2, -3, LEAST, MOST}, 0, "begin", 0, 0);
        e.due(1, "begin", 2, 0);
        e.due(2, "told", 1);
        e.due(1, "begin", 3, 0);
        e.due(3, "told", 1);
        e.sentence(2, "OUTSIDE (M is 0: none; 2 .. 97)");
        e.stock();
        e.refusedForEach(OUTSIDE, new int[] {-1, 1, 98, -2, -97, LEAST, MOST}, 1, "begin", 3, 0);
        for (int m : new int[] {0, 2, 3, 96, 97}) {
            e.due(1, "begin", 3, m);
            e.due(m, "told", 2);
        }
        e.sentence(2, "OUTSIDE, by both");
        e.stock();
        e.refused(OUTSIDE, "begin", 4, 98);
        e.refused(OUTSIDE, "begin", 1, 1);
    }

    private static void beginStays(Edge e) {
        e.sentence(2, "All is begun anew");
        e.stock();
        e.due(1, "begin", 2, 0);
        e.due(0, "told", 0);
        e.due(0, "told", 3);
        e.due(0, "told", 4);
        e.refused(STATE, "closed", 0);
        e.refused(UNKNOWN, "times", 0, 0);
        e.refused(UNKNOWN, "letter", 0, 0);
        e.refused(LOST, "entry", 0, 0, 0);
        e.due(0, "length", 1, 0);
        e.tables(2);
        e.due(4, "told", 4);
        e.due(2, "length", 1, 0);
        e.sentence(2, "All is begun anew: 6 TABLES and 10 WORDS again");
        e.tables(6);
        e.words(10);
        e.due(1, "begin", 2, 0);
        e.tables(6);
        e.words(10);
        e.due(6, "told", 0);
        e.due(10, "told", 3);
        e.sentence(2, "SHEETS and HISTORY stay");
        e.fill(0, 0, 5, -6);
        e.fill(1, 1);
        e.fill(2, 2, Edge.all(40, 7));
        e.tables(1);
        e.due(2, "tell", 0);
        e.due(0, "weigh", 0);
        e.due(1, "begin", 3, 97);
        e.due((2 * 31 + 1) * 31 + 4, "history");
        e.due(-6, "at", 0, 1, 0);
        e.due(1, "lose", 1);
        e.due(7, "at", 2, 39, 2);
        e.due(0, "lose", 3);
        e.sentence(2, "begin names no FAULT: fault() is of the latest call that names one");
        e.due(NULL, "put", 0, 0, 0);
        e.due(1, "begin", 2, 0);
        e.due(1, "fault");
        e.due(OUTSIDE, "begin", 4, 0);
        e.due(1, "fault");
    }

    private static void tableFirst(Edge e) {
        e.sentence(3, "UNKNOWN (SHEETS 0 .. 3)");
        e.stock();
        e.refusedForEach(UNKNOWN, new int[] {-1, 4, LEAST, MOST}, 0, "table", 0, 0, 0);
        e.due(NULL, "table", 3, 0, 0);
        e.due(2, "table", 0, 0, 0);
        e.sentence(3, "UNKNOWN goes ahead of OUTSIDE, of each FAULT and of FULL");
        e.tables(6);
        e.refused(UNKNOWN, "table", 4, 3, -1);
        e.refused(UNKNOWN, "table", -1, -1, 99);
        e.refused(UNKNOWN, "table", 4, 0, 0);
        e.sentence(3, "OUTSIDE: lane");
        e.stock();
        e.refusedForEach(OUTSIDE, new int[] {-1, 3, LEAST, MOST}, 1, "table", 0, 0, 0);
        for (int lane = 0; lane < 3; lane++) {
            e.due(2 + lane, "table", lane, lane, 0);
        }
        e.sentence(3, "OUTSIDE: lane goes ahead of CAST, NULL, INDEX, an entry and FULL");
        e.tables(6);
        e.fill(0, 0, 10, 0, 0, 0);
        e.refused(OUTSIDE, "table", 0, 3, 1);
        e.refused(OUTSIDE, "table", 0, -1, 0);
        e.refused(OUTSIDE, "table", 1, 3, 0);
        e.refused(OUTSIDE, "table", 1, -1, -1);
    }

    private static void tableFaults(Edge e) {
        e.sentence(3, "FAULTS CAST");
        e.stock();
        for (int k = 0; k < 3; k++) {
            e.refused(CAST, "table", k, (k + 1) % 3, 0);
            e.refused(CAST, "table", k, (k + 2) % 3, 0);
        }
        e.sentence(3, "CAST goes ahead of INDEX, an entry and FULL");
        e.tables(6);
        e.fill(0, 1, 10, 0, 0, 0);
        e.fill(1, 2);
        e.refused(CAST, "table", 0, 0, 1);
        e.refused(CAST, "table", 0, 0, -1);
        e.refused(CAST, "table", 0, 2, 0);
        e.refused(CAST, "table", 1, 0, 0);
        e.sentence(3, "nothing is no CAST");
        e.stock();
        e.refusedForEach(NULL, Edge.from(0, 2), 1, "table", 3, 0, 0);
        e.due(1, "lose", 0);
        e.refusedForEach(NULL, Edge.from(0, 2), 1, "table", 0, 0, 0);
        e.sentence(3, "NULL goes ahead of INDEX and FULL");
        e.tables(6);
        e.refused(NULL, "table", 0, 0, 0);
        e.refused(NULL, "table", 0, 0, -1);
        e.refused(NULL, "table", 0, 2, 40);
        e.sentence(3, "INDEX goes ahead of an entry and FULL");
        e.tables(6);
        e.fill(0, 0, 10, -10, 10, -10);
        e.refused(INDEX, "table", 0, 0, 1);
        e.refused(INDEX, "table", 0, 0, -1);
    }

    private static void tableCells(Edge e) {
        e.sentence(3, "INDEX: not all cells are there (D times D cells, D is 2)");
        e.stock();
        e.fill(0, 0, Edge.all(40, 1));
        e.fill(1, 1, Edge.all(3, 1));
        e.fill(2, 2);
        e.refusedForEach(INDEX, new int[] {-1, -4, 37, 40, 41, LEAST, MOST, MOST - 3, MOST - 2}, 2, "table", 0, 0, 0);
        e.refused(INDEX, "table", 1, 1, 0);
        e.refusedForEach(INDEX, Edge.from(-1, 1), 2, "table", 2, 2, 0);
        e.due(2, "table", 0, 0, 0);
        e.due(3, "table", 0, 0, 36);
        e.due(1, "sheet", 1, 1, 4);
        e.refused(INDEX, "table", 1, 1, 1);
        e.due(4, "table", 1, 1, 0);
        e.sentence(3, "INDEX: not all cells are there (D times D cells, D is 3)");
        e.due(1, "begin", 3, 0);
        e.fill(0, 0, Edge.all(40, 1));
        e.fill(1, 1, Edge.all(8, 1));
        e.refusedForEach(INDEX, new int[] {-1, 32, 36, 40, MOST - 8, MOST - 7, LEAST}, 2, "table", 0, 0, 0);
        e.refused(INDEX, "table", 1, 1, 0);
        e.due(0, "table", 0, 0, 0);
        e.due(1, "table", 0, 0, 31);
        e.due(1, "sheet", 1, 1, 9);
        e.refused(INDEX, "table", 1, 1, 1);
        e.due(2, "table", 1, 1, 0);
    }

    private static void tableEntries(Edge e) {
        for (int place = 0; place < 4; place++) {
            e.sentence(3, "OUTSIDE: an entry (whole numbers -9 .. 9), cell " + place);
            e.stock();
            for (int v : new int[] {-10, 10, MOST, LEAST}) {
                e.due(1, "put", 2, place, v);
                e.refused(OUTSIDE, "table", 2, 2, 0);
            }
            e.due(1, "put", 2, place, -9);
            e.due(2, "table", 2, 2, 0);
            e.due(-9, "entry", 2, place / 2, place % 2);
            e.due(1, "put", 2, place, 9);
            e.due(3, "table", 2, 2, 0);
            e.due(9, "entry", 3, place / 2, place % 2);
        }
        e.sentence(3, "OUTSIDE: an entry; D is 3, the last cell");
        e.due(1, "begin", 3, 0);
        e.fill(0, 1, 0, 0, 0, 0, 0, 0, 0, 0, 10);
        e.refused(OUTSIDE, "table", 0, 1, 0);
        e.due(1, "put", 0, 8, 9);
        e.due(0, "table", 0, 1, 0);
        e.due(9, "entry", 0, 2, 2);
        e.sentence(3, "OUTSIDE: an entry; cells ahead of i and behind are none");
        e.fill(0, 2, 10, 1, 2, 3, 4, -10);
        e.due(0, "table", 0, 2, 1);
        e.refused(OUTSIDE, "table", 0, 2, 0);
        e.refused(OUTSIDE, "table", 0, 2, 2);
        e.sentence(3, "OUTSIDE: an entry, as its cell was cut to the LANE");
        e.fill(0, 0, 265, -265, 256, 0);
        e.fill(1, 1, 265, 0, 0, 0);
        e.fill(2, 1, 65545, -65545, 0, 0);
        e.due(0, "table", 0, 0, 0);
        e.due(9, "entry", 0, 0, 0);
        e.due(-9, "entry", 0, 0, 1);
        e.refused(OUTSIDE, "table", 1, 1, 0);
        e.due(1, "table", 2, 1, 0);
        e.due(-9, "entry", 1, 0, 1);
    }

    private static void tableLast(Edge e) {
        e.sentence(3, "FULL (TABLES, 6 ever, numbered as they come)");
        e.fill(0, 0, 0, 1, 1, 0, 10);
        for (int t = 0; t < 6; t++) {
            e.due(t, "table", 0, 0, 0);
            e.due(t + 1, "told", 0);
        }
        e.due(2, "close");
        e.refused(FULL, "table", 0, 0, 0);
        e.due(FULL, "table", 0, 0, 0);
        e.due(FULL, "table", 0, 0, 0);
        e.due(6, "told", 0);
        e.sentence(3, "OUTSIDE: an entry goes ahead of FULL");
        e.tables(6);
        e.fill(0, 0, 0, 1, 1, 10);
        e.refused(OUTSIDE, "table", 0, 0, 0);
        e.sentence(3, "What CLOSURE was found is none behind it");
        e.stock();
        e.due(2, "table", 0, 0, 0);
        e.refused(STATE, "closed", 0);
        e.refused(UNKNOWN, "times", 0, 0);
        e.refused(LOST, "product", 0, 0, 0);
        e.due(7, "close");
        e.due(7, "closed", 0);
        e.sentence(3, "a TABLE more: all may come behind it and ahead of it");
        e.tables(1);
        e.due(1, "may", 0, 0, 0);
        e.tables(1);
        e.due(3, "told", 4);
        e.tables(4);
        e.due(35, "told", 4);
    }

    private static void rests(Edge e) {
        e.sentence(20, "with M all entries of PRODUCTS are rests 0 .. M - 1 (also those of one TABLE)");
        int[][] rests = {{2, 1, 1, 0, 0}, {9, 0, 0, 8, 1}, {10, 9, 1, 9, 1}, {97, 9, 88, 96, 1}};
        for (int[] due : rests) {
            e.anew();
            e.due(1, "begin", 2, due[0]);
            e.table(9, -9, due[0] == 2 ? 2 : -1, 1);
            e.word(0);
            e.due(due[1], "entryOf", 0, 0, 0);
            e.due(due[2], "entryOf", 0, 0, 1);
            e.due(due[3], "entryOf", 0, 1, 0);
            e.due(1, "entryOf", 0, 1, 1);
        }
        e.sentence(4, "an entry of a TABLE is as it came, with M, too");
        e.due(1, "begin", 2, 2);
        e.table(9, -9, 2, -1);
        e.due(9, "entry", 0, 0, 0);
        e.due(-9, "entry", 0, 0, 1);
        e.due(2, "entry", 0, 1, 0);
        e.due(-1, "entry", 0, 1, 1);
    }

    private static void entry(Edge e) {
        e.sentence(4, "LOST: UNKNOWN: TABLE");
        e.stock();
        e.due(1, "entry", 0, 0, 1);
        e.due(1, "entry", 1, 0, 0);
        e.refusedForEach(LOST, new int[] {-1, 2, 6, LEAST, MOST}, 0, "entry", 0, 0, 0);
        e.sentence(4, "LOST: UNKNOWN: TABLE, of six");
        e.tables(6);
        e.due(1, "entry", 5, 0, 0);
        e.refused(LOST, "entry", 6, 0, 0);
        for (int d = 2; d <= 3; d++) {
            e.sentence(4, "LOST: UNKNOWN: r, c (D is " + d + ")");
            e.due(1, "begin", d, 0);
            e.table(Edge.all(d * d, 4));
            e.due(4, "entry", 0, d - 1, 0);
            e.due(4, "entry", 0, 0, d - 1);
            e.due(4, "entry", 0, d - 1, d - 1);
            e.refusedForEach(LOST, new int[] {-1, d, LEAST, MOST}, 1, "entry", 0, 0, 0);
            e.refusedForEach(LOST, new int[] {-1, d, LEAST, MOST}, 2, "entry", 0, 0, 0);
        }
    }

    private static void may(Edge e) {
        e.sentence(5, "all may at first");
        e.tables(6);
        for (int pair = 0; pair < 36; pair++) {
            e.due(0, "may", pair / 6, pair % 6, 1);
        }
        e.due(36, "told", 4);
        e.sentence(5, "becomes so: 1; 0: it was so");
        e.tables(2);
        e.due(1, "may", 0, 1, 0);
        e.due(0, "may", 0, 1, 0);
        e.due(3, "told", 4);
        e.due(0, "may", 1, 0, 1);
        e.due(1, "may", 0, 1, 1);
        e.due(0, "may", 0, 1, 1);
        e.due(4, "told", 4);
        e.due(1, "may", 1, 1, 0);
        e.due(0, "may", 0, 0, 1);
        e.sentence(5, "UNKNOWN");
        e.refused(UNKNOWN, "may", 0, 0, 1);
        e.refused(UNKNOWN, "may", 0, 0, 0);
        e.stock();
        for (int is = 0; is < 2; is++) {
            e.refusedForEach(UNKNOWN, new int[] {-1, 2, 5, 6, LEAST, MOST}, 0, "may", 0, 0, is);
            e.refusedForEach(UNKNOWN, new int[] {-1, 2, 5, 6, LEAST, MOST}, 1, "may", 0, 0, is);
            e.refused(UNKNOWN, "may", 2, 2, is);
        }
        e.sentence(5, "UNKNOWN changes nothing: also of a TABLE that comes later");
        e.tables(1);
        e.due(UNKNOWN, "may", 0, 1, 0);
        e.due(UNKNOWN, "may", 1, 0, 0);
        e.due(UNKNOWN, "may", 1, 1, 0);
        e.tables(1);
        e.due(4, "told", 4);
        e.sentence(5, "UNKNOWN, of six TABLES");
        e.tables(6);
        e.refused(UNKNOWN, "may", 6, 5, 0);
        e.refused(UNKNOWN, "may", 5, 6, 0);
        e.due(1, "may", 5, 5, 0);
    }

    private static void told(Edge e) {
        e.sentence(31, "OUTSIDE");
        e.stock();
        e.refusedForEach(OUTSIDE, new int[] {-1, 5, LEAST, MOST}, 0, "told", 0);
        e.due(2, "told", 0);
        e.due(3, "told", 4);
        e.sentence(31, "4 pairs of TABLES that MAY: none, all 36");
        e.due(0, "told", 4);
        e.tables(6);
        e.due(36, "told", 4);
        e.mays("000000", "000000", "000000", "000000", "000000", "000000");
        e.due(0, "told", 4);
    }
}
