/** The edges that block 3 and promises 12 to 15 name: close, closed, product, times. */
public final class ClosureEdgeTest {
    private static final long LOST = Edge.LOST;
    private static final int UNKNOWN = Edge.UNKNOWN, OUTSIDE = Edge.OUTSIDE, STATE = Edge.STATE, SPENT = Edge.SPENT;
    private static final int NONE = Edge.NONE, LEAST = Edge.LEAST, MOST = Edge.MOST;

    public static void main(String[] args) {
        Edge e = new Edge();
        closeState(e);
        closeNumber(e);
        closeEntries(e);
        closeOrder(e);
        closedNumbers(e);
        closedNought(e);
        closedUnit(e);
        closedSquares(e);
        closedLength(e);
        product(e);
        times(e);
        e.end();
    }

    /** 40 times 10 times 5 PRODUCTS: powers by 41 of 6, of 4 and of -4. */
    private static void twoThousand(Edge e) {
        e.due(1, "begin", 3, 41);
        e.table(6, 0, 0, 0, 1, 0, 0, 0, 1);
        e.table(1, 0, 0, 0, 4, 0, 0, 0, 1);
        e.table(1, 0, 0, 0, 1, 0, 0, 0, -4);
    }

    private static void noClosure(Edge e) {
        e.refusedForEach(STATE, Edge.from(0, 4), 0, "closed", 0);
        e.refused(LOST, "product", 0, 0, 0);
        e.refused(UNKNOWN, "times", 0, 0);
    }

    private static void closeState(Edge e) {
        e.sentence(12, "STATE: there are no TABLES");
        e.refused(STATE, "close");
        e.tables(1);
        e.due(1, "close");
        e.due(1, "begin", 2, 0);
        e.refused(STATE, "close");
        e.due(1, "begin", 3, 2);
        e.refused(STATE, "close");
        noClosure(e);
        e.sentence(12, "CLOSURE is found: asked twice it is the same");
        e.stock();
        e.due(7, "close");
        e.due(7, "close");
        e.due(7, "closed", 0);
        e.sentence(12, "ALLOWED or not: MAY changes nothing of it");
        e.stock();
        e.due(1, "may", 0, 1, 0);
        e.due(7, "closed", 0);
        e.due(1, "times", 1, 1);
        e.due(1, "may", 0, 0, 0);
        e.due(1, "may", 1, 0, 0);
        e.due(7, "close");
    }

    private static void closeNumber(Edge e) {
        e.sentence(12, "SPENT: if there come to be more than 2000; 2000 are not");
        twoThousand(e);
        e.due(2000, "close");
        e.due(2000, "closed", 0);
        e.sentence(12, "SPENT: if there come to be more than 2000; 2001 are, by the last TABLE's PRODUCT");
        twoThousand(e);
        e.table(new int[9]);
        e.refused(SPENT, "close");
        e.due(SPENT, "close");
        noClosure(e);
        e.sentence(12, "SPENT: if there come to be more than 2000; 2001 are, by the first TABLE's PRODUCT");
        e.due(1, "begin", 3, 41);
        e.table(new int[9]);
        e.table(6, 0, 0, 0, 1, 0, 0, 0, 1);
        e.table(1, 0, 0, 0, 4, 0, 0, 0, 1);
        e.table(1, 0, 0, 0, 1, 0, 0, 0, -4);
        e.refused(SPENT, "close");
        e.sentence(12, "SPENT, and there is none then: a TABLE more takes the CLOSURE found away");
        twoThousand(e);
        e.due(2000, "close");
        e.table(new int[9]);
        noClosure(e);
        e.due(SPENT, "close");
        noClosure(e);
        e.sentence(12, "SPENT, and there is none then: begun anew one is found");
        twoThousand(e);
        e.table(new int[9]);
        e.due(SPENT, "close");
        e.due(1, "begin", 2, 0);
        e.tables(1);
        e.due(1, "close");
        e.due(1, "closed", 0);
        e.sentence(12, "SPENT: by number alone, each way");
        int[][] slow = {{1, 1, 0, 1}, {1, -1, 0, 1}, {1, 0, 1, 1}, {1, 0, -1, 1}, {1, 9, 0, 1}, {1, -9, 0, 1}};
        for (int[] entries : slow) {
            e.anew();
            e.table(entries);
            e.refused(SPENT, "close");
        }
    }

    private static void closeEntries(Edge e) {
        e.sentence(12, "SPENT: one has an entry beyond 1000000 either way");
        for (int entry : new int[] {2, -2, 8, -8, 9, -9, 3}) {
            for (int place = 0; place < 4; place += 3) {
                e.anew();
                int[] entries = new int[4];
                entries[place] = entry;
                e.table(entries);
                e.refused(SPENT, "close");
                noClosure(e);
            }
        }
        e.sentence(12, "SPENT: one has an entry beyond 1000000; a last TABLE alone makes it");
        e.tables(5);
        e.due(1, "close");
        e.table(0, 0, 0, 2);
        e.refused(SPENT, "close");
        e.sentence(12, "SPENT: one has an entry beyond 1000000; with M none has");
        e.due(1, "begin", 2, 97);
        e.table(2, 0, 0, 0);
        e.due(48, "close");
        e.due(1, "begin", 3, 2);
        e.table(Edge.all(9, 9));
        e.due(1, "close");
        e.sentence(12, "an entry beyond what a TABLE may have is taken, either way");
        e.due(1, "begin", 3, 0);
        e.table(0, 9, 9, 0, 0, 0, 0, 0, 0);
        e.table(0, 0, 0, 0, 0, 9, 0, 0, 1);
        e.table(0, 0, 0, 0, 0, -9, 0, 0, -1);
        e.due(6, "close");
        e.due(90, "product", 4, 0, 2);
        e.due(-90, "product", 5, 0, 2);
        // Greater ones than these a long search did not find: nearer to 1000000 the PRODUCTS are more than 2000 anyway.
        e.sentence(12, "the greatest entries that few PRODUCTS were seen to have are taken, either way");
        e.due(1, "begin", 3, 0);
        e.table(0, 0, 0, 8, -1, 0, 9, -9, 0);
        e.table(-1, 0, 0, -8, 1, 0, 0, 3, 0);
        e.table(-1, 0, 0, -3, 0, 0, 3, -8, 1);
        e.table(0, 0, 0, 8, 1, 0, -4, -6, 0);
        e.table(-1, 0, 0, 8, 0, 0, -6, 4, 0);
        e.table(0, 0, 0, -8, -1, 0, 7, 9, 1);
        e.due(576, "close");
        e.due(-624, "product", 469, 2, 0);
        e.due(624, "product", 471, 2, 0);
    }

    private static void closeOrder(Edge e) {
        e.sentence(12, "each once: TABLES that are alike");
        e.tables(6);
        e.due(1, "close");
        e.due(1, "closed", 4);
        e.sentence(12, "each once: TABLES that are alike by M");
        e.due(1, "begin", 2, 5);
        e.table(1, 0, 0, 0);
        e.table(6, 5, -5, 0);
        e.table(-4, 0, 0, 5);
        e.due(1, "close");
        e.sentence(12, "numbered as they are come to: it times TABLE 0, 1, ..");
        e.table(0, 0, 1, 0);
        e.table(0, 1, 0, 0);
        e.due(5, "close");
        e.due(1, "product", 0, 1, 0);
        e.due(1, "product", 1, 0, 1);
        for (int cell = 0; cell < 4; cell++) {
            e.due(0, "product", 2, cell / 2, cell % 2);
        }
        e.due(1, "product", 3, 1, 1);
        e.due(1, "product", 4, 0, 0);
        e.due(3, "times", 0, 1);
        e.due(4, "times", 1, 0);
        e.due(2, "times", 1, 1);
    }

    private static void closedNumbers(Edge e) {
        e.sentence(13, "OUTSIDE");
        e.stock();
        e.refusedForEach(OUTSIDE, new int[] {-1, 5, LEAST, MOST}, 0, "closed", 0);
        e.due(7, "closed", 0);
        e.due(3, "closed", 4);
        e.sentence(13, "OUTSIDE goes ahead of STATE");
        e.refused(OUTSIDE, "closed", -1);
        e.refused(OUTSIDE, "closed", 5);
        e.refused(STATE, "closed", 0);
        e.refused(STATE, "closed", 4);
        e.sentence(13, "STATE: there is none");
        e.tables(1);
        noClosure(e);
        e.due(1, "close");
        e.due(1, "closed", 0);
        e.tables(1);
        noClosure(e);
        e.due(1, "close");
        e.due(1, "begin", 2, 0);
        noClosure(e);
    }

    private static void closedNought(Edge e) {
        e.sentence(13, "1 whether one is 0 all over (1, 0)");
        for (int place = 0; place < 4; place++) {
            e.anew();
            int[] entries = new int[4];
            entries[place] = 1;
            e.table(entries);
            boolean ends = place == 1 || place == 2;
            e.due(ends ? 2 : 1, "close");
            e.due(ends ? 1 : 0, "closed", 1);
        }
        e.due(1, "begin", 3, 0);
        e.table(new int[9]);
        e.due(1, "close");
        e.due(1, "closed", 1);
        e.due(1, "begin", 3, 0);
        e.table(0, 0, 0, 0, 0, 0, 0, 0, -1);
        e.due(2, "close");
        e.due(0, "closed", 1);
        e.due(1, "begin", 2, 3);
        e.table(3, -3, 6, 9);
        e.due(1, "close");
        e.due(1, "closed", 1);
    }

    private static void closedUnit(Edge e) {
        e.sentence(13, "2 the number of the one with 1 in row i, column i (0 else)");
        e.table(0, 1, 1, 0);
        e.due(2, "close");
        e.due(1, "closed", 2);
        e.due(1, "begin", 3, 0);
        e.table(1, 0, 0, 0, 1, 0, 0, 0, 1);
        e.due(1, "close");
        e.due(0, "closed", 2);
        e.sentence(13, "2 .. (NONE)");
        int[][] none = {{1, 1, 0, 0}, {1, 0, 0, 0}, {0, 0, 0, 1}, {0, 0, 0, 0}, {1, 0, 1, 0}, {1, 1, 0, 0}};
        for (int[] entries : none) {
            e.anew();
            e.table(entries);
            e.due(1, "close");
            e.due(NONE, "closed", 2);
        }
        e.sentence(13, "2 .. (NONE): D is 3, one 1 is wanting");
        e.due(1, "begin", 3, 0);
        e.table(1, 0, 0, 0, 1, 0, 0, 0, 0);
        e.due(1, "close");
        e.due(NONE, "closed", 2);
        e.sentence(13, "2 .. by its rests");
        e.due(1, "begin", 2, 5);
        e.table(6, -5, 5, -4);
        e.due(1, "close");
        e.due(0, "closed", 2);
        e.sentence(13, "2 .. the last of 2000");
        twoThousand(e);
        e.due(2000, "close");
        e.due(0, "closed", 1);
        e.due(1, "closed", 3);
    }

    private static void closedSquares(Edge e) {
        e.sentence(13, "3 how many are their own square: one, all");
        e.table(0, 1, 1, 0);
        e.due(2, "close");
        e.due(1, "closed", 3);
        e.due(1, "begin", 2, 0);
        e.table(1, 0, 0, 0);
        e.table(0, 0, 0, 1);
        e.due(3, "close");
        e.due(3, "closed", 3);
        e.sentence(13, "3 .. by its rests");
        e.due(1, "begin", 2, 6);
        e.table(3, 0, 0, 4);
        e.due(1, "close");
        e.due(1, "closed", 3);
    }

    private static void closedLength(Edge e) {
        e.sentence(13, "4 the length of the WORD of the last one: 1 LETTER");
        e.table(1, 0, 0, 0);
        e.table(1, 0, 0, 1);
        e.due(2, "close");
        e.due(1, "closed", 4);
        e.sentence(13, "4 the length of the WORD of the last one: as it was come to first");
        e.table(0, 1, 1, 0);
        e.table(1, 0, 0, 1);
        e.due(2, "close");
        e.due(1, "closed", 4);
        e.sentence(13, "4 the length of the WORD of the last one: as many LETTERS as there are");
        e.due(1, "begin", 2, 97);
        e.table(5, 0, 0, 0);
        e.due(96, "close");
        e.due(96, "closed", 4);
        e.sentence(13, "4 the length of the WORD of the last one, of 2000");
        twoThousand(e);
        e.due(2000, "close");
        e.due(39 + 9 + 4, "closed", 4);
    }

    private static void product(Edge e) {
        e.sentence(14, "LOST: UNKNOWN: product k");
        e.stock();
        e.due(1, "product", 0, 0, 1);
        e.due(0, "product", 6, 0, 0);
        e.refusedForEach(LOST, new int[] {-1, 7, 2000, LEAST, MOST}, 0, "product", 0, 0, 0);
        e.sentence(14, "LOST: UNKNOWN: product k, of 2000");
        twoThousand(e);
        e.due(2000, "close");
        e.due(LOST, "product", 2000, 0, 0);
        e.due(0, "product", 1999, 0, 1);
        for (int d = 2; d <= 3; d++) {
            e.sentence(14, "LOST: UNKNOWN (r, c, too): D is " + d);
            e.due(1, "begin", d, 4);
            e.table(Edge.all(d * d, -1));
            e.due(d == 2 ? 3 : 1, "close");
            e.due(3, "product", 0, d - 1, 0);
            e.due(3, "product", 0, 0, d - 1);
            e.refusedForEach(LOST, new int[] {-1, d, LEAST, MOST}, 1, "product", 0, 0, 0);
            e.refusedForEach(LOST, new int[] {-1, d, LEAST, MOST}, 2, "product", 0, 0, 0);
        }
        e.sentence(14, "LOST: STATE");
        e.refused(LOST, "product", 0, 0, 0);
        e.tables(1);
        e.refused(LOST, "product", 0, 0, 0);
        e.due(1, "close");
        e.due(1, "product", 0, 0, 0);
        e.tables(1);
        e.refused(LOST, "product", 0, 0, 0);
    }

    private static void times(Edge e) {
        e.sentence(15, "UNKNOWN");
        e.stock();
        e.due(2, "times", 0, 0);
        e.due(6, "times", 6, 6);
        e.refusedForEach(UNKNOWN, new int[] {-1, 7, 2000, LEAST, MOST}, 0, "times", 0, 0);
        e.refusedForEach(UNKNOWN, new int[] {-1, 7, 2000, LEAST, MOST}, 1, "times", 0, 0);
        e.refused(UNKNOWN, "times", 7, 7);
        e.sentence(15, "UNKNOWN: of 2000");
        twoThousand(e);
        e.due(2000, "close");
        e.due(UNKNOWN, "times", 2000, 0);
        e.due(UNKNOWN, "times", 0, 2000);
        e.sentence(15, "UNKNOWN: also where there is none");
        e.refused(UNKNOWN, "times", 0, 0);
        e.tables(1);
        e.refused(UNKNOWN, "times", 0, 0);
        e.due(1, "close");
        e.due(0, "times", 0, 0);
        e.tables(1);
        e.refused(UNKNOWN, "times", 0, 0);
        e.due(1, "begin", 2, 0);
        e.refused(UNKNOWN, "times", 0, 0);
        e.table(2, 0, 0, 0);
        e.due(SPENT, "close");
        e.refused(UNKNOWN, "times", 0, 0);
        e.sentence(15, "product k times product j, not the other way");
        e.table(1, 0, 0, 0);
        e.table(0, 0, 1, 0);
        e.due(3, "close");
        e.due(2, "times", 0, 1);
        e.due(1, "times", 1, 0);
    }
}
