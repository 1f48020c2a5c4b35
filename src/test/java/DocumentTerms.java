import java.util.Arrays;

/** What 'Terms' says, piece by piece; the number beside a piece is that of a promise whose call shows it. */
final class DocumentTerms {
    private static final long LOST = Edge.LOST;
    private static final int UNKNOWN = Edge.UNKNOWN, OUTSIDE = Edge.OUTSIDE, STATE = Edge.STATE, FULL = Edge.FULL;
    private static final int SPENT = Edge.SPENT, NONE = Edge.NONE;
    private static final int NULL = Edge.NULL, CAST = Edge.CAST, INDEX = Edge.INDEX, SIZE = Edge.SIZE;

    private DocumentTerms() {
    }

    static void read(Reading r) {
        refusals(r, r.edge);
        faults(r, r.edge);
        tables(r, r.edge);
        modulus(r, r.edge);
        words(r, r.edge);
        lengths(r, r.edge);
        rings(r, r.edge);
        growth(r, r.edge);
        closure(r, r.edge);
        closureTold(r, r.edge);
        sheets(r, r.edge);
        kinds(r, r.edge);
        telling(r, r.edge);
        remarks(r);
    }

    private static void refusals(Reading r, Edge e) {
        r.term(26, "REFUSALS, the first of these that fits: UNKNOWN (there is no such TABLE, WORD, product, SHEET, place)");
        e.stock();
        e.refused(UNKNOWN, "tell", 2);
        e.refused(UNKNOWN, "letter", 2, 0);
        e.refused(UNKNOWN, "times", 7, 0);
        e.refused(UNKNOWN, "lose", 4);
        e.refused(UNKNOWN, "letter", 0, 2);
        e.refused(UNKNOWN, "as", 2, 3);
        e.refused(UNKNOWN, "about", 2, 4);
        r.term(31, "OUTSIDE (another number is not as told)");
        e.refused(OUTSIDE, "told", 5);
        e.refused(OUTSIDE, "rings", 9);
        e.refused(OUTSIDE, "growth", 0, 1, 1);
        e.refused(OUTSIDE, "closed", 5);
        r.term(11, "STATE (as told)");
        e.refused(STATE, "growth", 1, 1, 1);
        e.refused(STATE, "close");
        e.refused(STATE, "closed", 4);
        e.due(1, "begin", 2, 2);
        e.tables(6);
        e.refused(STATE, "growth", 1, 1, 7);
        r.term(3, "FULL");
        e.tables(6);
        e.fill(0, 2, 1, 1, 1, 1);
        e.refused(FULL, "table", 0, 2, 0);
        r.term(8, "SPENT (as told)");
        e.tables(6);
        e.due(1554, "rings", 5);
        e.refused(SPENT, "rings", 6);
        r.term(2, "they change nothing (but fault(), of a call that names FAULTS)");
        e.stock();
        e.due(INDEX, "put", 0, 6, 1);
        e.refused(OUTSIDE, "begin", 2, 1);
        e.refused(UNKNOWN, "put", 4, 0, 1);
        e.due(OUTSIDE, "begin", 2, 1);
        e.due(3, "fault");
        e.due(UNKNOWN, "put", 4, 0, 1);
        e.due(0, "fault");
    }

    private static void faults(Reading r, Edge e) {
        r.term(24, "FAULTS are the machine's: 1 NULL (there is nothing)");
        e.due(NULL, "put", 0, 0, 1);
        e.due(1, "fault");
        r.term(28, "2 CAST (it is of another LANE, kind)");
        e.stock();
        e.due(CAST, "table", 0, 1, 0);
        e.due(2, "fault");
        e.due(CAST, "as", 1, 2);
        e.due(2, "fault");
        r.term(24, "3 INDEX");
        e.stock();
        e.due(INDEX, "put", 0, 6, 1);
        e.due(3, "fault");
        r.term(22, "4 SIZE (a length below 0)");
        e.due(SIZE, "sheet", 0, 0, -1);
        e.due(4, "fault");
        r.term(16, "Of a call the first that is come to, in the order told");
        e.stock();
        e.refused(CAST, "word", 0, 1, 99, -1);
        e.refused(NULL, "word", 3, 1, 99, -1);
        e.refused(SIZE, "word", 0, 0, 99, -1);
        e.refused(INDEX, "word", 0, 0, 99, 13);
        e.refused(OUTSIDE, "word", 0, 0, 0, 0);
        r.term(25, "it answers -10 less it (LOST, where a long is answered, as for refusals) and changes nothing; fault() tells it");
        e.stock();
        e.refused(-14, "sheet", 0, 0, -3);
        e.refused(-12, "as", 1, 2);
        e.lost(1, "at", 3, 0, 0);
        e.lost(2, "at", 0, 0, 1);
        e.lost(3, "at", 0, 6, 0);
        e.lost(0, "at", 4, 0, 0);
        e.due(LOST, "at", 0, 6, 0);
        e.due(3, "fault");
        r.term(10, "NONE is -9");
        e.due(-9, "ring", 1, 0);
        e.due(-9, "extreme", 8, 1, 7);
        e.table(0, 0, 0, 0);
        e.due(1, "close");
        e.due(-9, "closed", 2);
    }

    private static void tables(Reading r, Edge e) {
        r.term(3, "1 TABLES, 6 ever, numbered as they come");
        e.fill(0, 0, 3, 0, 0, 3);
        for (int t = 0; t < 6; t++) {
            e.due(t, "told", 0);
            e.due(t, "table", 0, 0, 0);
        }
        e.refused(FULL, "table", 0, 0, 0);
        r.term(3, "each of D rows and columns (D is 2 or 3; 2 at first)");
        e.due(2, "told", 1);
        e.fill(0, 0, 1, 2, 3, 4);
        e.due(0, "table", 0, 0, 0);
        e.due(LOST, "entry", 0, 0, 2);
        e.due(1, "begin", 3, 0);
        e.due(3, "told", 1);
        e.refused(INDEX, "table", 0, 0, 0);
        e.fill(0, 0, 1, 2, 3, 4, 5, 6, 7, 8, 9);
        e.due(0, "table", 0, 0, 0);
        e.due(9, "entry", 0, 2, 2);
        e.due(LOST, "entry", 0, 0, 3);
        r.term(3, "of whole numbers -9 .. 9");
        e.fill(0, 2, -10, -9, 9, 9, -9, 10);
        e.refused(OUTSIDE, "table", 0, 2, 0);
        e.refused(OUTSIDE, "table", 0, 2, 2);
        e.due(0, "table", 0, 2, 1);
        r.term(4, "its entries told row by row");
        e.table(1, 2, 3, 4);
        e.due(2, "entry", 0, 0, 1);
        e.due(3, "entry", 0, 1, 0);
        e.due(1, "begin", 3, 0);
        e.table(1, 2, 3, 4, 5, 6, 7, 8, 9);
        e.due(6, "entry", 0, 1, 2);
        e.due(7, "entry", 0, 2, 0);
    }

    private static void modulus(Reading r, Edge e) {
        r.term(2, "A MODULUS M (0: none; 2 .. 97; 0 at first)");
        e.due(0, "told", 2);
        e.due(OUTSIDE, "begin", 2, 1);
        e.due(1, "begin", 2, 2);
        e.due(2, "told", 2);
        e.due(1, "begin", 2, 97);
        e.due(OUTSIDE, "begin", 2, 98);
        e.due(97, "told", 2);
        e.due(1, "begin", 2, 0);
        e.due(0, "told", 2);
        r.term(20, "with it all entries of PRODUCTS are taken as rests 0 .. M - 1 (also those of one TABLE)");
        e.due(1, "begin", 2, 5);
        e.table(-1, 7, -9, 4);
        e.word(0);
        e.word(0, 0);
        places(e, "entryOf", 0, 4, 2, 1, 4);
        places(e, "entryOf", 1, 3, 1, 3, 3);
    }

    private static void words(Reading r, Edge e) {
        r.term(18, "LETTERS are TABLES' numbers");
        e.tables(3);
        e.word(2, 0, 1);
        e.due(2, "letter", 0, 0);
        e.due(0, "letter", 0, 1);
        e.due(1, "letter", 0, 2);
        e.fill(0, 0, 3);
        e.refused(UNKNOWN, "word", 0, 0, 0, 1);
        r.term(5, "MAY: whether TABLE b may come behind TABLE a (all may at first)");
        e.tables(2);
        e.due(4, "told", 4);
        e.due(1, "may", 0, 1, 0);
        e.due(3, "told", 4);
        e.word(0, 1);
        e.word(1, 0);
        e.due(0, "about", 0, 1);
        e.due(1, "about", 1, 1);
        r.term(16, "A WORD is a row of 1 .. 12 LETTERS");
        e.tables(1);
        e.fill(0, 0, Edge.all(13, 0));
        e.refused(OUTSIDE, "word", 0, 0, 0, 0);
        e.refused(OUTSIDE, "word", 0, 0, 0, 13);
        e.due(0, "word", 0, 0, 0, 1);
        e.due(1, "word", 0, 0, 0, 12);
        r.term(20, "its PRODUCT that of its TABLES in order (the first one leftmost)");
        e.table(1, 2, 0, 1);
        e.table(1, 0, 3, 1);
        e.word(0, 1);
        e.word(1, 0);
        e.word(0, 1, 1);
        places(e, "entryOf", 0, 7, 2, 3, 1);
        places(e, "entryOf", 1, 1, 2, 3, 7);
        places(e, "entryOf", 2, 13, 2, 6, 1);
        r.term(21, "NORM of a PRODUCT: the greatest over its rows of the sum of sizes");
        e.table(-3, 4, 5, -1);
        e.word(0);
        e.due(7, "size", 0, 0);
        e.due(1, "begin", 3, 0);
        e.table(1, 1, 1, -2, -2, -2, 0, 0, 5);
        e.word(0);
        e.due(6, "size", 0, 0);
        r.term(21, "TRACK: the sum of its entries in row i, column i");
        e.table(-3, 4, 5, -1);
        e.word(0);
        e.due(-4, "size", 0, 1);
        e.due(1, "begin", 3, 0);
        e.table(1, 2, 3, 4, 5, 6, 7, 8, -9);
        e.word(0);
        e.due(-3, "size", 0, 1);
        r.term(19, "A WORD is ALLOWED, if each LETTER may come behind the one ahead of it");
        e.tables(3);
        e.due(1, "may", 1, 2, 0);
        e.word(0, 1, 0);
        e.word(0, 1, 2);
        e.word(2, 1, 0);
        e.due(1, "about", 0, 1);
        e.due(0, "about", 1, 1);
        e.due(1, "about", 2, 1);
        r.term(7, "WORDS of one length are in order as rows of LETTERS");
        e.tables(2);
        letters(e, "extreme", new int[] {3, 0}, 0, 0, 0);
        e.due(1, "may", 0, 0, 0);
        letters(e, "extreme", new int[] {2, 0}, 0, 1);
        e.due(1, "may", 0, 1, 0);
        letters(e, "extreme", new int[] {3, 1}, 1, 1, 0);
    }

    private static void lengths(Reading r, Edge e) {
        r.term(6, "2 LENGTH n (1 .. 8): all ALLOWED WORDS of n LETTERS");
        e.tables(2);
        e.due(1, "may", 1, 1, 0);
        int[] counts = {2, 3, 5, 8, 13, 21, 34, 55};
        for (int n = 1; n <= 8; n++) {
            e.due(counts[n - 1], "length", n, 0);
        }
        e.due(LOST, "length", 0, 0);
        e.due(LOST, "length", 9, 0);
        r.term(6, "if there are 20000 of them or fewer (else SPENT)");
        e.tables(5);
        e.due(15625, "length", 6, 0);
        e.due(LOST, "length", 7, 0);
        e.due(SPENT, "rings", 7);
        r.term(6, "how many there are");
        e.tables(3);
        e.due(81, "length", 4, 0);
        e.due(6561, "length", 8, 0);
        r.term(7, "the greatest NORM, the first WORD that has it");
        e.table(1, 1, 0, 1);
        e.table(1, 0, 1, 1);
        e.due(5, "length", 3, 1);
        letters(e, "extreme", new int[] {3, 0}, 0, 0, 1);
        r.term(7, "the least, the first");
        e.table(2, 0, 0, 2);
        e.table(1, 0, 0, 1);
        e.table(1, 0, 0, 1);
        e.due(1, "length", 2, 2);
        letters(e, "extreme", new int[] {2, 1}, 1, 1);
        r.term(6, "how many PRODUCTS are 0 all over");
        e.table(0, 1, 0, 0);
        e.table(1, 0, 0, 0);
        e.due(0, "length", 1, 3);
        e.due(2, "length", 2, 3);
        e.due(6, "length", 3, 3);
    }

    private static void rings(Reading r, Edge e) {
        r.term(8, "RINGS of length n: ALLOWED WORDS the first LETTER of which may come behind the last one");
        e.tables(2);
        e.word(0, 1);
        e.due(1, "may", 1, 0, 0);
        e.due(0, "rings", 2);
        e.due(0, "about", 0, 2);
        e.due(1, "may", 1, 0, 1);
        e.due(1, "rings", 2);
        e.due(1, "about", 0, 2);
        r.term(8, "that are no WORD taken twice or more");
        e.tables(2);
        e.due(3, "rings", 4);
        e.word(0, 1, 0, 1);
        e.due(0, "about", 0, 2);
        r.term(8, "and that are the first of all WORDS that they become by moving LETTERS from the front to the end"
            + " (all of these are ALLOWED, then)");
        e.tables(3);
        e.word(0, 1, 2);
        e.word(1, 2, 0);
        e.word(2, 0, 1);
        e.word(0, 2, 1);
        e.due(1, "about", 0, 2);
        e.due(0, "about", 1, 2);
        e.due(0, "about", 2, 2);
        e.due(1, "about", 3, 2);
        e.due(8, "rings", 3);
        e.due(1, "may", 2, 1, 0);
        e.due(0, "about", 3, 2);
        e.due(5, "rings", 3);
        r.term(10, "THE RING of length n: the one with the greatest size of its TRACK; of several the first");
        e.table(1, 0, 0, 0);
        e.table(-5, 0, 0, 1);
        e.table(0, 0, 0, 4);
        e.due(1, "ring", 1, 0);
        e.due(-4, "ringTrack", 1);
    }

    private static void growth(Reading r, Edge e) {
        r.term(11, "THE GROWTH is surely ABOVE a / b by length n: an ALLOWED WORD of a length k up to n, the first LETTER of"
            + " which may come behind the last one, has a TRACK whose size times b^k is more than D times a^k");
        e.table(1, 1, 1, 0);
        e.due(0, "growth", 4, 3, 3);
        e.due(1, "growth", 4, 3, 4);
        e.due(1, "growth", 4, 3, 7);
        e.due(1, "may", 0, 0, 0);
        e.due(0, "growth", 1, 9, 1);
        r.term(11, "surely BELOW: for some k up to n all ALLOWED WORDS' NORMS times b^k are less than a^k (also if there are none)");
        e.table(1, 1, 1, 0);
        e.due(0, "growth", 9, 5, 1);
        e.due(-1, "growth", 9, 5, 2);
        e.due(-1, "growth", 9, 5, 7);
        e.due(0, "growth", 2, 1, 1);
        e.due(1, "may", 0, 0, 0);
        e.due(0, "growth", 4, 3, 1);
        e.due(-1, "growth", 4, 3, 2);
    }

    /** Their products: itself, the other, 0 all over, one 1 at each end. */
    static void upAndDown(Edge e) {
        e.table(0, 1, 0, 0);
        e.table(0, 0, 1, 0);
    }

    private static void closure(Reading r, Edge e) {
        r.term(12, "3 CLOSURE: all PRODUCTS of all WORDS of any length (ALLOWED or not), each once");
        e.table(0, 1, 1, 0);
        e.due(2, "close");
        e.due(1, "may", 0, 0, 0);
        e.due(2, "close");
        r.term(14, "numbered as they are come to: those of one LETTER in order, then, of each in order, it times TABLE 0, 1, ..");
        upAndDown(e);
        e.due(5, "close");
        places(e, "product", 0, 0, 1, 0, 0);
        places(e, "product", 1, 0, 0, 1, 0);
        places(e, "product", 2, 0, 0, 0, 0);
        places(e, "product", 3, 1, 0, 0, 0);
        places(e, "product", 4, 0, 0, 0, 1);
        r.term(12, "if there come to be more than 2000");
        e.due(1, "begin", 2, 97);
        e.table(5, 0, 0, 1);
        e.due(96, "close");
        e.table(1, 0, 0, 5);
        e.refused(SPENT, "close");
        r.term(12, "or one has an entry beyond 1000000 either way: SPENT");
        e.table(9, 0, 0, 0);
        e.refused(SPENT, "close");
        e.anew();
        e.table(0, 0, 0, -9);
        e.refused(SPENT, "close");
        r.term(13, "and there is none then");
        e.table(1, 0, 0, 0);
        e.due(1, "close");
        e.table(9, 0, 0, 0);
        e.due(SPENT, "close");
        e.due(STATE, "closed", 0);
        e.due(LOST, "product", 0, 0, 0);
        e.due(UNKNOWN, "times", 0, 0);
    }

    private static void closureTold(Reading r, Edge e) {
        r.term(13, "How many");
        upAndDown(e);
        e.due(5, "close");
        e.due(5, "closed", 0);
        r.term(13, "in how many of them all is 0 (0, 1)");
        upAndDown(e);
        e.due(5, "close");
        e.due(1, "closed", 1);
        e.anew();
        e.table(0, 1, 1, 0);
        e.due(2, "close");
        e.due(0, "closed", 1);
        r.term(13, "which is the one with 1 in row i, column i, 0 else");
        e.table(0, 1, 1, 0);
        e.due(2, "close");
        e.due(1, "closed", 2);
        e.anew();
        upAndDown(e);
        e.due(5, "close");
        e.due(NONE, "closed", 2);
        r.term(13, "how many are their own square");
        upAndDown(e);
        e.due(5, "close");
        e.due(3, "closed", 3);
        r.term(13, "the length of the WORD by which the last one was come to");
        upAndDown(e);
        e.due(5, "close");
        e.due(2, "closed", 4);
        e.anew();
        e.due(1, "begin", 2, 97);
        e.table(5, 0, 0, 1);
        e.due(96, "close");
        e.due(96, "closed", 4);
    }

    private static void sheets(Reading r, Edge e) {
        r.term(16, "4 WORDS, 10 ever kept, numbered as they come");
        e.tables(1);
        e.fill(0, 1, 0);
        for (int w = 0; w < 10; w++) {
            e.due(w, "told", 3);
            e.due(w, "word", 0, 1, 0, 1);
        }
        e.refused(FULL, "word", 0, 1, 0, 1);
        e.refused(FULL, "join", 0, 0);
        r.term(22, "SHEETS 0 .. 3 have nothing (at first), or a row of 0 .. 40 numbers (0 at first) of a LANE: 0 bytes, 1 shorts, 2 ints");
        for (int k = 0; k < 4; k++) {
            e.due(0, "lose", k);
            e.due(NULL, "put", k, 0, 0);
        }
        for (int lane = 0; lane < 3; lane++) {
            e.due(1, "sheet", lane, lane, 40);
            e.dueForEach(0, Edge.from(0, 39), 1, "at", lane, 0, lane);
            e.due(INDEX, "put", lane, 40, 0);
        }
        e.due(1, "sheet", 3, 0, 0);
        e.due(INDEX, "put", 3, 0, 0);
        e.due(1, "lose", 3);
        e.due(UNKNOWN, "sheet", 4, 0, 0);
        e.due(UNKNOWN, "sheet", -1, 0, 0);
        r.term(24, "what comes to a cell of it is cut to its LANE");
        int[] want = {-128, -128, 0x12345680};
        for (int lane = 0; lane < 3; lane++) {
            e.due(1, "sheet", 0, lane, 1);
            e.due(1, "put", 0, 0, lane == 1 ? 0x1234FF80 : 0x12345680);
            e.due(want[lane], "at", 0, 0, lane);
        }
    }

    private static void kinds(Reading r, Edge e) {
        r.term(28, "KINDS of TABLES: 0 any");
        e.table(-1, 0, 0, 1);
        kindIs(e, 0);
        r.term(28, "1 EVEN: no entry is below 0");
        e.table(5, 0, 2, 0);
        kindIs(e, 1);
        r.term(28, "2 SHUFFLE: an EVEN one, each row and each column has one 1 and else 0");
        e.table(0, 1, 1, 0);
        kindIs(e, 2);
        e.anew();
        e.table(1, 0, 1, 0);
        kindIs(e, 1);
        e.due(1, "begin", 3, 0);
        e.table(0, 0, 1, 1, 0, 0, 0, 1, 0);
        kindIs(e, 2);
    }

    private static void kindIs(Edge e, int greatest) {
        for (int kind = 0; kind < 3; kind++) {
            e.due(kind <= greatest ? 1 : CAST, "as", 0, kind);
        }
    }

    private static void telling(Reading r, Edge e) {
        r.term(29, "TELLING of TABLES by bodies that leave their number in HISTORY (an int that wraps, 0 at first, becomes 31 times"
            + " it and the number) as they begin");
        e.table(-1, 0, 0, 0);
        int[] histories = {0, 1, 32, 993, 30784, 954305, 29583456, 917087137, -1635069824};
        for (int history : histories) {
            e.due(history, "history");
            e.due(-1, "tell", 0);
        }
        r.term(26, "any (1): its TRACK (without M)");
        e.due(1, "begin", 2, 5);
        e.table(-3, 1, 1, -4);
        e.due(-7, "tell", 0);
        e.due(1, "history");
        r.term(26, "EVEN (2): what (1) gives, and its greatest entry");
        e.table(2, 7, 0, 3);
        e.due(12, "tell", 0);
        e.due(63, "history");
        r.term(26, "SHUFFLE (3): what EVEN's gives, and what (1) gives (EVEN's left out)");
        e.table(1, 0, 0, 1);
        e.due(5, "tell", 0);
        e.due(91327, "history");
        r.term(27, "WEIGHED by a lent body (4): its number");
        e.tables(2);
        e.due(1, "weigh", 1);
        e.due(4, "history");
        e.due(0, "weigh", 0);
        e.due(128, "history");
        r.term(27, "SHUFFLES have their own (5): 60");
        e.table(0, 1, 1, 0);
        e.due(60, "weigh", 0);
        e.due(5, "history");
    }

    private static void remarks(Reading r) {
        r.remark("Ahead of the calls `begin`, `table`, `entry`, `may` the interface says: ---- 1 tables.");
        r.remark("Ahead of the calls `length`, `extreme`, `rings`, `ringTrack`, `ring`, `growth` the interface says:"
            + " ---- 2 lengths.");
        r.remark("Ahead of the calls `close`, `closed`, `product`, `times` the interface says: ---- 3 closure.");
        r.remark("Ahead of the calls `word`, `join`, `letter`, `about`, `entryOf`, `size` the interface says: ---- 4 words.");
        r.remark("Ahead of the calls `sheet`, `lose`, `put`, `at`, `tell`, `weigh`, `as`, `history`, `fault`, `told` the"
            + " interface says: ---- sheets, parts.");
    }

    /** The four entries of what has this number, D being 2. */
    static void places(Edge e, String name, int number, long... want) {
        for (int cell = 0; cell < want.length; cell++) {
            e.due(want[cell], name, number, cell / 2, cell % 2);
        }
    }

    /** The LETTERS that a call answers, its last parameter being their place. */
    static void letters(Edge e, String name, int[] ahead, int... want) {
        for (int i = 0; i < want.length; i++) {
            int[] p = Arrays.copyOf(ahead, ahead.length + 1);
            p[ahead.length] = i;
            e.due(want[i], name, p);
        }
    }
}
