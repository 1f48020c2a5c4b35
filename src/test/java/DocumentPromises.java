/** What the sections 'Promise 1' to 'Promise 31' say, piece by piece. */
final class DocumentPromises {
    private static final long LOST = Edge.LOST;
    private static final int UNKNOWN = Edge.UNKNOWN, OUTSIDE = Edge.OUTSIDE, STATE = Edge.STATE, FULL = Edge.FULL;
    private static final int SPENT = Edge.SPENT, NONE = Edge.NONE;
    private static final int NULL = Edge.NULL, CAST = Edge.CAST, INDEX = Edge.INDEX, SIZE = Edge.SIZE;

    private DocumentPromises() {
    }

    static void read(Reading r) {
        newObject(r, r.edge);
        begin(r, r.edge);
        table(r, r.edge);
        entry(r, r.edge);
        may(r, r.edge);
        length(r, r.edge);
        extreme(r, r.edge);
        rings(r, r.edge);
        theRing(r, r.edge);
        growth(r, r.edge);
        close(r, r.edge);
        closed(r, r.edge);
        products(r, r.edge);
        word(r, r.edge);
        join(r, r.edge);
        letter(r, r.edge);
        about(r, r.edge);
        wordProduct(r, r.edge);
        sheet(r, r.edge);
        lose(r, r.edge);
        put(r, r.edge);
        at(r, r.edge);
        parts(r, r.edge);
        as(r, r.edge);
        history(r, r.edge);
        fault(r, r.edge);
        told(r, r.edge);
    }

    private static void newObject(Reading r, Edge e) {
        r.promise(1, "D is 2, no M");
        e.due(2, "told", 1);
        e.due(0, "told", 2);
        r.promise(1, "no TABLES, WORDS, SHEETS");
        e.due(0, "told", 0);
        e.due(0, "told", 3);
        e.due(0, "told", 4);
        e.due(UNKNOWN, "weigh", 0);
        e.due(UNKNOWN, "about", 0, 0);
        e.dueForEach(NULL, Edge.from(0, 3), 0, "put", 0, 0, 0);
        r.promise(1, "no CLOSURE");
        e.dueForEach(STATE, Edge.from(0, 4), 0, "closed", 0);
        e.due(UNKNOWN, "times", 0, 0);
        e.due(LOST, "product", 0, 0, 0);
    }

    private static void begin(Reading r, Edge e) {
        r.promise(2, "All is begun anew (SHEETS and HISTORY stay)");
        e.stock();
        e.due(1, "begin", 2, 0);
        e.due(0, "told", 0);
        e.due(0, "told", 3);
        e.due(0, "told", 4);
        e.due(STATE, "closed", 0);
        e.due(0, "length", 1, 0);
        e.due(91327, "history");
        e.due(1, "at", 0, 1, 0);
        e.due(2, "at", 2, 5, 2);
        e.tables(2);
        e.due(4, "told", 4);
        r.promise(2, "D becomes d, M becomes m: 1");
        e.due(1, "begin", 3, 7);
        e.due(3, "told", 1);
        e.due(7, "told", 2);
        e.due(1, "begin", 2, 2);
        e.due(2, "told", 1);
        e.due(2, "told", 2);
        r.promise(2, "OUTSIDE");
        e.stock();
        e.refusedForEach(OUTSIDE, new int[] {0, 1, 4}, 0, "begin", 0, 0);
        e.refusedForEach(OUTSIDE, new int[] {-1, 1, 98}, 1, "begin", 3, 0);
    }

    private static void table(Reading r, Edge e) {
        r.promise(3, "A TABLE more, from D times D cells of a SHEET, taken as a row of a LANE, from i on: its number");
        e.fill(0, 1, 8, 1, 2, 3, 4, 5);
        e.due(0, "table", 0, 1, 1);
        e.due(1, "table", 0, 1, 2);
        e.due(2, "told", 0);
        DocumentTerms.places(e, "entry", 0, 1, 2, 3, 4);
        DocumentTerms.places(e, "entry", 1, 2, 3, 4, 5);
        r.promise(3, "UNKNOWN");
        e.stock();
        e.refused(UNKNOWN, "table", 4, 0, 0);
        r.promise(3, "OUTSIDE: lane");
        e.stock();
        e.refused(OUTSIDE, "table", 0, 3, 0);
        r.promise(3, "FAULTS CAST (nothing is no CAST)");
        e.stock();
        e.refused(CAST, "table", 0, 2, 0);
        e.refused(NULL, "table", 3, 2, 0);
        r.promise(3, "NULL");
        e.stock();
        e.refused(NULL, "table", 3, 0, 9);
        r.promise(3, "INDEX: not all cells are there");
        e.stock();
        e.refused(INDEX, "table", 0, 0, 3);
        e.refused(INDEX, "table", 0, 0, -1);
        e.due(2, "table", 0, 0, 2);
        r.promise(3, "OUTSIDE: an entry");
        e.stock();
        e.due(1, "put", 0, 3, 10);
        e.refused(OUTSIDE, "table", 0, 0, 0);
        r.promise(3, "FULL");
        e.tables(6);
        e.fill(0, 0, 0, 0, 0, 0);
        e.refused(FULL, "table", 0, 0, 0);
        r.promise(3, "(What CLOSURE was found is none behind it.)");
        e.stock();
        e.due(7, "closed", 0);
        e.due(2, "table", 0, 0, 0);
        e.due(STATE, "closed", 0);
        e.due(UNKNOWN, "times", 0, 0);
        e.due(7, "close");
    }

    private static void entry(Reading r, Edge e) {
        r.promise(4, "Entry in row r, column c of a TABLE");
        e.table(0, 0, 0, 0);
        e.table(-9, 8, 7, 6);
        DocumentTerms.places(e, "entry", 1, -9, 8, 7, 6);
        r.promise(4, "LOST: UNKNOWN: TABLE, r, c");
        e.stock();
        e.refused(LOST, "entry", 2, 0, 0);
        e.refused(LOST, "entry", 0, 2, 0);
        e.refused(LOST, "entry", 0, 0, -1);
    }

    private static void may(Reading r, Edge e) {
        r.promise(5, "Whether TABLE b may come behind TABLE a becomes so: 1");
        e.tables(2);
        e.due(1, "may", 0, 1, 0);
        e.due(3, "length", 2, 0);
        e.due(1, "may", 0, 1, 1);
        e.due(4, "length", 2, 0);
        r.promise(5, "0: it was so");
        e.tables(2);
        e.due(0, "may", 0, 1, 1);
        e.due(1, "may", 0, 1, 0);
        e.due(0, "may", 0, 1, 0);
        e.due(0, "may", 1, 0, 1);
        e.due(3, "told", 4);
        r.promise(5, "UNKNOWN");
        e.stock();
        e.refused(UNKNOWN, "may", 2, 0, 1);
        e.refused(UNKNOWN, "may", 0, -1, 0);
    }

    /** Nought as often as one stands behind itself; 6, 12 and 18, where each stands behind the other. */
    private static void twoAndThree(Edge e) {
        e.table(0, 2, 0, 0);
        e.table(0, 0, 3, 0);
    }

    private static void length(Reading r, Edge e) {
        r.promise(6, "LENGTH n: 0 how many");
        twoAndThree(e);
        e.due(2, "length", 1, 0);
        e.due(256, "length", 8, 0);
        r.promise(6, "1 the greatest NORM");
        twoAndThree(e);
        e.due(3, "length", 1, 1);
        e.due(6, "length", 2, 1);
        e.due(18, "length", 3, 1);
        e.due(1296, "length", 8, 1);
        r.promise(6, "2 the least");
        twoAndThree(e);
        e.due(2, "length", 1, 2);
        e.due(0, "length", 2, 2);
        r.promise(6, "3 how many PRODUCTS are 0 all over");
        twoAndThree(e);
        e.due(0, "length", 1, 3);
        e.due(2, "length", 2, 3);
        e.due(254, "length", 8, 3);
        r.promise(6, "LOST: OUTSIDE: n, what");
        twoAndThree(e);
        e.refused(LOST, "length", 0, 0);
        e.refused(LOST, "length", 9, 0);
        e.refused(LOST, "length", 1, -1);
        e.refused(LOST, "length", 1, 4);
        r.promise(6, "SPENT");
        e.tables(4);
        e.due(16384, "length", 7, 0);
        e.refusedForEach(LOST, Edge.from(0, 3), 1, "length", 8, 0);
        r.promise(6, "there is no such WORD (1, 2)");
        e.tables(1);
        e.due(1, "may", 0, 0, 0);
        e.due(0, "length", 2, 0);
        e.refused(LOST, "length", 2, 1);
        e.refused(LOST, "length", 2, 2);
        e.due(0, "length", 2, 3);
    }

    private static void extreme(Reading r, Edge e) {
        r.promise(7, "LETTER i of the first WORD with the greatest NORM (which 0)");
        twoAndThree(e);
        DocumentTerms.letters(e, "extreme", new int[] {3, 0}, 1, 0, 1);
        r.promise(7, "with the least (1)");
        twoAndThree(e);
        DocumentTerms.letters(e, "extreme", new int[] {3, 1}, 0, 0, 0);
        e.due(1, "may", 0, 0, 0);
        DocumentTerms.letters(e, "extreme", new int[] {3, 1}, 0, 1, 1);
        r.promise(7, "OUTSIDE: n, which, i is not 0 .. n - 1");
        twoAndThree(e);
        e.refused(OUTSIDE, "extreme", 0, 0, 0);
        e.refused(OUTSIDE, "extreme", 9, 0, 0);
        e.refused(OUTSIDE, "extreme", 3, 2, 0);
        e.refused(OUTSIDE, "extreme", 3, 0, 3);
        e.refused(OUTSIDE, "extreme", 3, 0, -1);
        r.promise(7, "SPENT");
        e.tables(4);
        e.due(0, "extreme", 7, 0, 6);
        e.refused(SPENT, "extreme", 8, 0, 0);
        r.promise(7, "NONE: there is no such WORD");
        e.tables(1);
        e.due(1, "may", 0, 0, 0);
        e.refused(NONE, "extreme", 2, 0, 0);
        e.refused(NONE, "extreme", 2, 1, 1);
    }

    private static void rings(Reading r, Edge e) {
        r.promise(8, "How many RINGS of length n there are");
        e.tables(2);
        int[] counts = {2, 1, 2, 3, 6, 9, 18, 30};
        for (int n = 1; n <= 8; n++) {
            e.due(counts[n - 1], "rings", n);
        }
        r.promise(8, "OUTSIDE");
        e.tables(2);
        e.refused(OUTSIDE, "rings", 0);
        e.refused(OUTSIDE, "rings", 9);
        r.promise(8, "SPENT");
        e.tables(4);
        e.due(2340, "rings", 7);
        e.refused(SPENT, "rings", 8);
    }

    private static void theRing(Reading r, Edge e) {
        r.promise(9, "Of THE RING of length n: its TRACK");
        e.table(0, 2, 0, 0);
        e.table(0, 0, -3, 0);
        e.due(0, "ringTrack", 1);
        e.due(-6, "ringTrack", 2);
        e.due(0, "ringTrack", 4);
        r.promise(9, "LOST: OUTSIDE");
        e.tables(1);
        e.refused(LOST, "ringTrack", 0);
        e.refused(LOST, "ringTrack", 9);
        r.promise(9, "SPENT");
        e.tables(4);
        e.due(1, "ringTrack", 7);
        e.refused(LOST, "ringTrack", 8);
        r.promise(9, "there is none");
        e.tables(1);
        e.due(1, "ringTrack", 1);
        e.refused(LOST, "ringTrack", 2);
        r.promise(10, "LETTER i of THE RING of length n");
        e.table(0, 2, 0, 0);
        e.table(0, 0, -3, 0);
        DocumentTerms.letters(e, "ring", new int[] {2}, 0, 1);
        DocumentTerms.letters(e, "ring", new int[] {4}, 0, 0, 0, 1);
        r.promise(10, "OUTSIDE: n, i");
        e.tables(2);
        e.refused(OUTSIDE, "ring", 0, 0);
        e.refused(OUTSIDE, "ring", 9, 0);
        e.refused(OUTSIDE, "ring", 2, 2);
        e.refused(OUTSIDE, "ring", 2, -1);
        r.promise(10, "SPENT");
        e.tables(4);
        e.due(1, "ring", 7, 6);
        e.refused(SPENT, "ring", 8, 0);
        r.promise(10, "NONE: there is none");
        e.tables(1);
        e.refused(NONE, "ring", 2, 1);
    }

    private static void growth(Reading r, Edge e) {
        r.promise(11, "THE GROWTH, a / b, by length n: 1 surely ABOVE");
        e.table(3, 0, 0, 3);
        e.due(1, "growth", 2, 1, 1);
        e.due(1, "growth", 8, 3, 7);
        r.promise(11, "-1 surely BELOW");
        e.table(3, 0, 0, 3);
        e.due(-1, "growth", 4, 1, 1);
        e.due(-1, "growth", 7, 2, 7);
        r.promise(11, "0 neither");
        e.table(3, 0, 0, 3);
        e.due(0, "growth", 3, 1, 7);
        e.due(0, "growth", 9, 3, 7);
        r.promise(11, "OUTSIDE (-2): a, b are not 1 .. 9, n is not 1 .. 7");
        e.table(3, 0, 0, 3);
        for (int p = 0; p < 3; p++) {
            e.refusedForEach(-2, new int[] {0, 10, -1}, p, "growth", 1, 1, 1);
        }
        e.refused(-2, "growth", 1, 1, 8);
        r.promise(11, "STATE: M is above 0, there are no TABLES");
        e.refused(STATE, "growth", 1, 1, 1);
        e.due(1, "begin", 2, 3);
        e.tables(1);
        e.refused(STATE, "growth", 1, 1, 1);
        r.promise(11, "SPENT: of a length up to n");
        e.tables(5);
        e.due(0, "growth", 1, 1, 6);
        e.refused(SPENT, "growth", 1, 1, 7);
    }

    private static void close(Reading r, Edge e) {
        r.promise(12, "CLOSURE is found: how many");
        e.due(1, "begin", 3, 0);
        e.table(0, 1, 0, 0, 0, 1, 1, 0, 0);
        e.due(STATE, "closed", 0);
        e.due(3, "close");
        e.due(3, "closed", 0);
        e.table(0, 1, 0, 1, 0, 0, 0, 0, 1);
        e.due(6, "close");
        r.promise(12, "STATE: there are no TABLES");
        e.refused(STATE, "close");
        r.promise(12, "SPENT");
        e.table(1, 1, 0, 1);
        e.refused(SPENT, "close");
    }

    private static void closed(Reading r, Edge e) {
        r.promise(13, "Of the CLOSURE found: 0 how many");
        e.stock();
        e.due(7, "closed", 0);
        r.promise(13, "1 whether one is 0 all over (1, 0)");
        e.stock();
        e.due(1, "closed", 1);
        e.anew();
        e.table(1, 0, 0, 0);
        e.due(1, "close");
        e.due(0, "closed", 1);
        r.promise(13, "2 the number of the one with 1 in row i, column i (NONE)");
        e.stock();
        e.due(2, "closed", 2);
        e.anew();
        e.table(1, 0, 0, 0);
        e.due(1, "close");
        e.due(NONE, "closed", 2);
        r.promise(13, "3 how many are their own square");
        e.stock();
        e.due(4, "closed", 3);
        r.promise(13, "4 the length of the WORD of the last one");
        e.stock();
        e.due(3, "closed", 4);
        r.promise(13, "OUTSIDE");
        e.stock();
        e.refused(OUTSIDE, "closed", -1);
        e.refused(OUTSIDE, "closed", 5);
        r.promise(13, "STATE: there is none");
        e.refusedForEach(STATE, Edge.from(0, 4), 0, "closed", 0);
    }

    private static void products(Reading r, Edge e) {
        r.promise(14, "Entry in row r, column c of product k of the CLOSURE");
        e.table(0, -1, 1, 0);
        e.due(4, "close");
        DocumentTerms.places(e, "product", 0, 0, -1, 1, 0);
        DocumentTerms.places(e, "product", 1, -1, 0, 0, -1);
        DocumentTerms.places(e, "product", 2, 0, 1, -1, 0);
        DocumentTerms.places(e, "product", 3, 1, 0, 0, 1);
        r.promise(14, "LOST: UNKNOWN (r, c, too)");
        e.stock();
        e.refused(LOST, "product", 7, 0, 0);
        e.refused(LOST, "product", -1, 0, 0);
        e.refused(LOST, "product", 0, 2, 0);
        e.refused(LOST, "product", 0, 0, 2);
        r.promise(14, "STATE");
        e.tables(1);
        e.refused(LOST, "product", 0, 0, 0);
        r.promise(15, "The number in the CLOSURE of product k times product j");
        DocumentTerms.upAndDown(e);
        e.due(5, "close");
        int[][] due = {{2, 3, 2, 2, 0}, {4, 2, 2, 1, 2}, {2, 2, 2, 2, 2}, {0, 2, 2, 3, 2}, {2, 1, 2, 2, 4}};
        for (int k = 0; k < 5; k++) {
            for (int j = 0; j < 5; j++) {
                e.due(due[k][j], "times", k, j);
            }
        }
        r.promise(15, "UNKNOWN: also where there is none");
        e.stock();
        e.refused(UNKNOWN, "times", 7, 0);
        e.refused(UNKNOWN, "times", 0, 7);
        e.anew();
        e.tables(1);
        e.refused(UNKNOWN, "times", 0, 0);
    }

    private static void word(Reading r, Edge e) {
        r.promise(16, "A WORD is kept, of n LETTERS, cells i .. of a SHEET, taken as a row of a LANE: its number");
        e.tables(3);
        e.fill(0, 1, 9, 2, 0, 1, 9);
        e.due(0, "word", 0, 1, 1, 3);
        e.due(1, "word", 0, 1, 3, 1);
        e.due(3, "about", 0, 0);
        DocumentTerms.letters(e, "letter", new int[] {0}, 2, 0, 1);
        DocumentTerms.letters(e, "letter", new int[] {1}, 1);
        r.promise(16, "UNKNOWN");
        e.stock();
        e.refused(UNKNOWN, "word", 4, 0, 0, 1);
        r.promise(16, "OUTSIDE: lane");
        e.stock();
        e.refused(OUTSIDE, "word", 0, 3, 0, 1);
        r.promise(16, "FAULTS CAST (nothing is no CAST)");
        e.stock();
        e.refused(CAST, "word", 0, 1, 0, 1);
        e.refused(NULL, "word", 3, 1, 0, 1);
        r.promise(16, "NULL");
        e.stock();
        e.refused(NULL, "word", 3, 0, 0, -1);
        r.promise(16, "SIZE: n is below 0");
        e.stock();
        e.refused(SIZE, "word", 0, 0, 6, -1);
        r.promise(16, "INDEX: not all cells are there");
        e.stock();
        e.refused(INDEX, "word", 0, 0, 5, 2);
        e.refused(INDEX, "word", 0, 0, -1, 2);
        e.refused(INDEX, "word", 0, 0, 0, 13);
        e.due(2, "word", 0, 0, 3, 2);
        r.promise(16, "OUTSIDE: n is not 1 .. 12");
        e.stock();
        e.fill(0, 0, Edge.all(13, 2));
        e.refused(OUTSIDE, "word", 0, 0, 0, 0);
        e.refused(OUTSIDE, "word", 0, 0, 0, 13);
        r.promise(16, "UNKNOWN: a LETTER is no TABLE");
        e.stock();
        e.refused(UNKNOWN, "word", 0, 0, 0, 6);
        e.due(2, "word", 0, 0, 0, 5);
        r.promise(16, "FULL");
        e.tables(1);
        e.words(10);
        e.fill(0, 0, 0);
        e.refused(FULL, "word", 0, 0, 0, 1);
    }

    private static void join(Reading r, Edge e) {
        r.promise(17, "A WORD more: WORD a, then WORD b: its number");
        e.tables(4);
        e.word(3, 1);
        e.word(0, 2, 2);
        e.due(2, "join", 1, 0);
        e.due(3, "join", 0, 0);
        e.due(4, "told", 3);
        DocumentTerms.letters(e, "letter", new int[] {2}, 0, 2, 2, 3, 1, UNKNOWN);
        DocumentTerms.letters(e, "letter", new int[] {3}, 3, 1, 3, 1, UNKNOWN);
        r.promise(17, "UNKNOWN");
        e.stock();
        e.refused(UNKNOWN, "join", 2, 0);
        e.refused(UNKNOWN, "join", 0, -1);
        r.promise(17, "OUTSIDE: it would have more than 12 LETTERS");
        e.tables(1);
        e.word(Edge.all(7, 0));
        e.word(Edge.all(5, 0));
        e.word(Edge.all(6, 0));
        e.refused(OUTSIDE, "join", 0, 2);
        e.due(3, "join", 0, 1);
        e.due(12, "about", 3, 0);
        r.promise(17, "FULL");
        e.tables(1);
        e.words(10);
        e.refused(FULL, "join", 0, 9);
    }

    private static void letter(Reading r, Edge e) {
        r.promise(18, "LETTER i of a WORD");
        e.tables(6);
        e.word(5, 4, 3, 2, 1, 0, 0, 1, 2, 3, 4, 5);
        DocumentTerms.letters(e, "letter", new int[] {0}, 5, 4, 3, 2, 1, 0, 0, 1, 2, 3, 4, 5);
        r.promise(18, "UNKNOWN: WORD, i");
        e.stock();
        e.refused(UNKNOWN, "letter", 2, 0);
        e.refused(UNKNOWN, "letter", 0, 2);
        e.refused(UNKNOWN, "letter", 0, -1);
    }

    private static void about(Reading r, Edge e) {
        r.promise(19, "Of a WORD: 0 how many LETTERS");
        e.stock();
        e.due(2, "about", 0, 0);
        e.due(1, "about", 1, 0);
        r.promise(19, "1 whether it is ALLOWED (1, 0)");
        e.stock();
        e.due(2, "join", 0, 1);
        e.due(1, "about", 0, 1);
        e.due(0, "about", 2, 1);
        r.promise(19, "2 whether it is a RING");
        e.stock();
        e.word(1, 0);
        e.due(1, "about", 0, 2);
        e.due(0, "about", 1, 2);
        e.due(0, "about", 2, 2);
        r.promise(19, "3 how often it is some WORD taken one behind the other (1: none but itself)");
        e.tables(2);
        e.word(0, 1, 0, 1, 0, 1);
        e.word(0, 0, 1, 0, 0, 1);
        e.word(0, 1, 0, 1, 0);
        e.word(1, 1, 1, 1);
        e.due(3, "about", 0, 3);
        e.due(2, "about", 1, 3);
        e.due(1, "about", 2, 3);
        e.due(4, "about", 3, 3);
        r.promise(19, "UNKNOWN");
        e.stock();
        e.refused(UNKNOWN, "about", 2, 0);
        r.promise(19, "OUTSIDE");
        e.stock();
        e.refused(OUTSIDE, "about", 0, 4);
        e.refused(OUTSIDE, "about", 0, -1);
    }

    private static void wordProduct(Reading r, Edge e) {
        r.promise(20, "Entry in row r, column c of a WORD's PRODUCT");
        e.table(1, 1, 0, 1);
        e.table(2, 0, 0, -3);
        e.word(0, 1);
        e.word(1, 0);
        DocumentTerms.places(e, "entryOf", 0, 2, -3, 0, -3);
        DocumentTerms.places(e, "entryOf", 1, 2, 2, 0, -3);
        r.promise(20, "LOST: UNKNOWN: WORD, r, c");
        e.stock();
        e.refused(LOST, "entryOf", 2, 0, 0);
        e.refused(LOST, "entryOf", 0, 2, 0);
        e.refused(LOST, "entryOf", 0, 0, -1);
        r.promise(21, "Of a WORD's PRODUCT: NORM (what 0)");
        e.table(1, 1, 0, 1);
        e.table(2, 0, 0, -3);
        e.word(0, 1);
        e.word(1, 0);
        e.due(5, "size", 0, 0);
        e.due(4, "size", 1, 0);
        r.promise(21, "TRACK (1)");
        e.table(1, 1, 0, 1);
        e.table(2, 0, 0, -3);
        e.word(0, 1);
        e.due(-1, "size", 0, 1);
        r.promise(21, "LOST: UNKNOWN, OUTSIDE");
        e.stock();
        e.refused(LOST, "size", 2, 0);
        e.refused(LOST, "size", 0, 2);
        e.refused(LOST, "size", 0, -1);
    }

    private static void sheet(Reading r, Edge e) {
        r.promise(22, "A SHEET gets a new row: 1");
        e.fill(1, 2, 5, 6);
        e.due(1, "sheet", 1, 1, 3);
        e.dueForEach(0, Edge.from(0, 2), 1, "at", 1, 0, 1);
        e.due(LOST, "at", 1, 3, 1);
        r.promise(22, "UNKNOWN");
        e.stock();
        e.refused(UNKNOWN, "sheet", 4, 0, 1);
        r.promise(22, "OUTSIDE: lane, n above 40");
        e.stock();
        e.refused(OUTSIDE, "sheet", 0, 3, 1);
        e.refused(OUTSIDE, "sheet", 0, -1, 1);
        e.refused(OUTSIDE, "sheet", 0, 0, 41);
        r.promise(22, "SIZE");
        e.stock();
        e.refused(SIZE, "sheet", 0, 0, -1);
    }

    private static void lose(Reading r, Edge e) {
        r.promise(23, "A SHEET has nothing: 1");
        e.fill(2, 0, 1);
        e.due(1, "lose", 2);
        e.due(NULL, "put", 2, 0, 1);
        r.promise(23, "0: it had nothing");
        e.due(0, "lose", 2);
        e.fill(2, 0);
        e.due(1, "lose", 2);
        e.due(0, "lose", 2);
        r.promise(23, "UNKNOWN");
        e.stock();
        e.refused(UNKNOWN, "lose", 4);
        e.refused(UNKNOWN, "lose", -1);
    }

    private static void put(Reading r, Edge e) {
        r.promise(24, "Cell i of a SHEET becomes v: 1");
        e.due(1, "sheet", 3, 2, 3);
        e.due(1, "put", 3, 1, Edge.LEAST);
        e.due(0, "at", 3, 0, 2);
        e.due(Edge.LEAST, "at", 3, 1, 2);
        e.due(0, "at", 3, 2, 2);
        r.promise(24, "UNKNOWN");
        e.stock();
        e.refused(UNKNOWN, "put", 4, 0, 1);
        r.promise(24, "NULL");
        e.stock();
        e.refused(NULL, "put", 3, -1, 1);
        r.promise(24, "INDEX");
        e.stock();
        e.refused(INDEX, "put", 0, 6, 1);
        e.refused(INDEX, "put", 0, -1, 1);
    }

    private static void at(Reading r, Edge e) {
        r.promise(25, "Cell i of what a SHEET has, taken as a row of a LANE");
        e.fill(0, 0, -128, 127);
        e.fill(1, 1, -32768, 32767);
        e.fill(2, 2, Edge.LEAST, Edge.MOST);
        e.due(-128, "at", 0, 0, 0);
        e.due(32767, "at", 1, 1, 1);
        e.due(Edge.MOST, "at", 2, 1, 2);
        r.promise(25, "LOST: UNKNOWN");
        e.stock();
        e.lost(0, "at", 4, 0, 0);
        r.promise(25, "OUTSIDE: lane");
        e.stock();
        e.lost(0, "at", 0, 0, 3);
        r.promise(25, "FAULTS CAST (nothing is no CAST)");
        e.stock();
        e.lost(2, "at", 0, 0, 2);
        e.lost(1, "at", 3, 0, 2);
        r.promise(25, "NULL");
        e.stock();
        e.lost(1, "at", 3, -1, 0);
        r.promise(25, "INDEX");
        e.stock();
        e.lost(3, "at", 0, 6, 0);
        e.lost(3, "at", 0, -1, 0);
    }

    private static void parts(Reading r, Edge e) {
        r.promise(26, "TELLING of a TABLE");
        e.table(-1, 3, 3, 3);
        e.table(4, 3, 3, 3);
        e.table(0, 1, 1, 0);
        e.due(2, "tell", 0);
        e.due(11, "tell", 1);
        e.due(1, "tell", 2);
        r.promise(26, "UNKNOWN");
        e.stock();
        e.refused(UNKNOWN, "tell", 2);
        e.refused(UNKNOWN, "tell", -1);
        r.promise(27, "How it is WEIGHED");
        e.table(-1, 3, 3, 3);
        e.table(4, 3, 3, 3);
        e.table(0, 1, 1, 0);
        e.due(0, "weigh", 0);
        e.due(1, "weigh", 1);
        e.due(60, "weigh", 2);
        r.promise(27, "UNKNOWN");
        e.stock();
        e.refused(UNKNOWN, "weigh", 2);
        e.refused(UNKNOWN, "weigh", -1);
    }

    private static void as(Reading r, Edge e) {
        r.promise(28, "A TABLE, taken as one of a kind: 1");
        e.table(-1, 3, 3, 3);
        e.table(4, 3, 3, 3);
        e.table(0, 1, 1, 0);
        e.due(1, "as", 0, 0);
        e.due(1, "as", 1, 1);
        e.due(1, "as", 2, 2);
        r.promise(28, "UNKNOWN");
        e.stock();
        e.refused(UNKNOWN, "as", 2, 0);
        r.promise(28, "OUTSIDE");
        e.stock();
        e.refused(OUTSIDE, "as", 0, 3);
        e.refused(OUTSIDE, "as", 0, -1);
        r.promise(28, "CAST: it is none (a SHUFFLE is EVEN, each is any)");
        e.table(-1, 3, 3, 3);
        e.table(4, 3, 3, 3);
        e.table(0, 1, 1, 0);
        e.refused(CAST, "as", 0, 1);
        e.refused(CAST, "as", 0, 2);
        e.refused(CAST, "as", 1, 2);
        e.due(1, "as", 1, 0);
        e.due(1, "as", 2, 1);
        e.due(1, "as", 2, 0);
    }

    private static void history(Reading r, Edge e) {
        r.promise(29, "HISTORY");
        e.table(4, 3, 3, 3);
        e.due(0, "history");
        e.due(11, "tell", 0);
        e.due(63, "history");
        e.due(0, "weigh", 0);
        e.due(1957, "history");
        e.due(1957, "history");
    }

    private static void fault(Reading r, Edge e) {
        r.promise(30, "The FAULT of the latest call that names one");
        e.due(SIZE, "sheet", 0, 0, -1);
        e.due(4, "fault");
        e.due(NULL, "put", 0, 0, 0);
        e.due(1, "fault");
        e.due(0, "lose", 0);
        e.due(STATE, "close");
        e.due(1, "fault");
        r.promise(30, "0: it came to none, or was refused (0 ahead of any)");
        e.due(0, "fault");
        e.due(SIZE, "sheet", 0, 0, -1);
        e.due(1, "sheet", 0, 0, 1);
        e.due(0, "fault");
        e.due(INDEX, "put", 0, 1, 0);
        e.due(UNKNOWN, "put", 4, 1, 0);
        e.due(0, "fault");
    }

    private static void told(Reading r, Edge e) {
        r.promise(31, "How many: 0 TABLES");
        e.stock();
        e.due(2, "told", 0);
        r.promise(31, "1 D");
        e.due(2, "told", 1);
        e.due(1, "begin", 3, 0);
        e.due(3, "told", 1);
        r.promise(31, "2 M");
        e.due(0, "told", 2);
        e.due(1, "begin", 2, 43);
        e.due(43, "told", 2);
        r.promise(31, "3 WORDS kept");
        e.stock();
        e.due(2, "told", 3);
        e.due(2, "join", 0, 0);
        e.due(3, "told", 3);
        r.promise(31, "4 pairs of TABLES that MAY");
        e.stock();
        e.due(3, "told", 4);
        e.due(1, "may", 0, 1, 0);
        e.due(2, "told", 4);
        r.promise(31, "OUTSIDE");
        e.stock();
        e.refused(OUTSIDE, "told", -1);
        e.refused(OUTSIDE, "told", 5);
    }
}
