import java.util.Arrays;

/** Products of a few small tables taken in any order, or in such orders as are allowed. */
public final class AnyOrder {
    public static final int UNKNOWN = -1, OUTSIDE = -2, STATE = -3, FULL = -4, SPENT = -6, NONE = -9;
    public static final long LOST = Long.MIN_VALUE;

    private static final int NULL = 1, CAST = 2, INDEX = 3, SIZE = 4;
    private static final int FAULT_BASE = -10;
    private static final int FINE = 1;

    private static final int MAX_TABLES = 6;
    private static final int MIN_D = 2, MAX_D = 3, MAX_CELLS = MAX_D * MAX_D;
    private static final int MIN_M = 2, MAX_M = 97;
    private static final int MAX_ENTRY = 9;
    private static final int MAX_LENGTH = 8, MAX_GROWTH_LENGTH = 7, MAX_LENGTH_WORDS = 20000;
    private static final int MAX_FRACTION_PART = 9;
    private static final int MAX_PRODUCTS = 2000, MAX_PRODUCT_ENTRY = 1000000;
    private static final int MAX_WORDS = 10, MAX_LETTERS = 12;
    private static final int SHEETS = 4, LANES = 3, MAX_ROW = 40;
    private static final int KINDS = 3;

    private final Tables tables = new Tables();
    private final Lengths lengths = new Lengths(tables);
    private final Closure closure = new Closure(tables);
    private final Word[] words = new Word[MAX_WORDS];
    private final Sheet[] sheets = new Sheet[SHEETS];
    private final Trail trail = new Trail();
    private int wordCount;
    private int latestFault;

    public AnyOrder() {
        for (int w = 0; w < MAX_WORDS; w++) {
            words[w] = new Word();
        }
        for (int k = 0; k < SHEETS; k++) {
            sheets[k] = new Sheet();
        }
    }

    // ---- 1 tables

    public int begin(int d, int m) {
        if (!isWithin(d, MIN_D, MAX_D) || m != 0 && !isWithin(m, MIN_M, MAX_M)) {
            return OUTSIDE;
        }
        tables.restart(d, m);
        lengths.forget();
        closure.forget();
        wordCount = 0;
        return 1;
    }

    public int table(int sheet, int lane, int i) {
        return settle(addTable(sheet, lane, i));
    }

    public long entry(int t, int r, int c) {
        if (!tables.has(t) || !tables.isPlace(r, c)) {
            return LOST;
        }
        return tables.tableOf(t).entries[tables.cellOf(r, c)];
    }

    public int may(int a, int b, boolean is) {
        if (!tables.has(a) || !tables.has(b)) {
            return UNKNOWN;
        }
        if (tables.mayFollow(a, b) == is) {
            return 0;
        }
        tables.allow(a, b, is);
        lengths.forget();
        return 1;
    }

    // ---- 2 lengths

    public long length(int n, int what) {
        if (!isWithin(n, 1, MAX_LENGTH) || !isWithin(what, 0, 3)) {
            return LOST;
        }
        if (lengths.isSpent(n)) {
            return LOST;
        }
        boolean isNone = lengths.countOf(n) == 0;
        switch (what) {
            case 0:
                return lengths.countOf(n);
            case 1:
                return isNone ? LOST : lengths.surveyOf(n).greatest;
            case 2:
                return isNone ? LOST : lengths.surveyOf(n).least;
            default:
                return lengths.surveyOf(n).noughts;
        }
    }

    public int extreme(int n, int which, int i) {
        if (!isWithin(n, 1, MAX_LENGTH) || !isWithin(which, 0, 1) || !isWithin(i, 0, n - 1)) {
            return OUTSIDE;
        }
        if (lengths.isSpent(n)) {
            return SPENT;
        }
        if (lengths.countOf(n) == 0) {
            return NONE;
        }
        Survey survey = lengths.surveyOf(n);
        return which == 0 ? survey.greatestWord[i] : survey.leastWord[i];
    }

    public int rings(int n) {
        if (!isWithin(n, 1, MAX_LENGTH)) {
            return OUTSIDE;
        }
        return lengths.isSpent(n) ? SPENT : lengths.surveyOf(n).ringCount;
    }

    public long ringTrack(int n) {
        if (!isWithin(n, 1, MAX_LENGTH) || lengths.isSpent(n)) {
            return LOST;
        }
        Survey survey = lengths.surveyOf(n);
        return survey.ringCount == 0 ? LOST : survey.greatestRingTrack;
    }

    public int ring(int n, int i) {
        if (!isWithin(n, 1, MAX_LENGTH) || !isWithin(i, 0, n - 1)) {
            return OUTSIDE;
        }
        if (lengths.isSpent(n)) {
            return SPENT;
        }
        Survey survey = lengths.surveyOf(n);
        return survey.ringCount == 0 ? NONE : survey.ringWord[i];
    }

    public int growth(int a, int b, int n) {
        if (!isWithin(a, 1, MAX_FRACTION_PART) || !isWithin(b, 1, MAX_FRACTION_PART)
                || !isWithin(n, 1, MAX_GROWTH_LENGTH)) {
            return OUTSIDE;
        }
        if (tables.modulus() > 0 || tables.count() == 0) {
            return STATE;
        }
        for (int k = 1; k <= n; k++) {
            if (lengths.isSpent(k)) {
                return SPENT;
            }
        }
        return lengths.compareGrowth(a, b, n);
    }

    // ---- 3 closure

    public int close() {
        return tables.count() == 0 ? STATE : closure.search();
    }

    public int closed(int what) {
        if (!isWithin(what, 0, 4)) {
            return OUTSIDE;
        }
        if (!closure.isFound()) {
            return STATE;
        }
        switch (what) {
            case 0:
                return closure.count;
            case 1:
                return closure.hasNought ? 1 : 0;
            case 2:
                return closure.unit;
            case 3:
                return closure.ownSquares;
            default:
                return closure.lastWordLength();
        }
    }

    public long product(int k, int r, int c) {
        if (!closure.has(k) || !tables.isPlace(r, c)) {
            return LOST;
        }
        return closure.entryAt(k, tables.cellOf(r, c));
    }

    public int times(int k, int j) {
        if (!closure.has(k) || !closure.has(j)) {
            return UNKNOWN;
        }
        return closure.numberOfProduct(k, j);
    }

    // ---- 4 words

    public int word(int sheet, int lane, int i, int n) {
        return settle(keepWord(sheet, lane, i, n));
    }

    public int join(int a, int b) {
        if (!hasWord(a) || !hasWord(b)) {
            return UNKNOWN;
        }
        if (words[a].letterCount + words[b].letterCount > MAX_LETTERS) {
            return OUTSIDE;
        }
        if (wordCount >= MAX_WORDS) {
            return FULL;
        }
        Word joined = words[wordCount];
        joined.clear();
        joined.appendAll(words[a]);
        joined.appendAll(words[b]);
        return finishWord();
    }

    public int letter(int w, int i) {
        if (!hasWord(w) || !isWithin(i, 0, words[w].letterCount - 1)) {
            return UNKNOWN;
        }
        return words[w].letters[i];
    }

    public int about(int w, int what) {
        if (!hasWord(w)) {
            return UNKNOWN;
        }
        Word word = words[w];
        switch (what) {
            case 0:
                return word.letterCount;
            case 1:
                return tables.isAllowed(word.letters, word.letterCount) ? 1 : 0;
            case 2:
                return isRing(word) ? 1 : 0;
            case 3:
                return Spelling.repeats(word.letters, word.letterCount);
            default:
                return OUTSIDE;
        }
    }

    public long entryOf(int w, int r, int c) {
        if (!hasWord(w) || !tables.isPlace(r, c)) {
            return LOST;
        }
        return words[w].row[tables.cellOf(r, c)];
    }

    public long size(int w, int what) {
        if (!hasWord(w) || !isWithin(what, 0, 1)) {
            return LOST;
        }
        return what == 0 ? tables.norm(words[w].row) : tables.track(words[w].row);
    }

    // ---- sheets, parts

    public int sheet(int k, int lane, int n) {
        return settle(renewSheet(k, lane, n));
    }

    public int lose(int k) {
        if (!isSheet(k)) {
            return UNKNOWN;
        }
        return sheets[k].drop() ? 1 : 0;
    }

    public int put(int k, int i, int v) {
        return settle(putCell(k, i, v));
    }

    public long at(int k, int i, int lane) {
        int answer = settle(lookAtCells(k, lane, i, 1));
        return answer == FINE ? sheets[k].cells[i] : LOST;
    }

    public int tell(int t) {
        return tables.has(t) ? tables.tableOf(t).telling(trail) : UNKNOWN;
    }

    public int weigh(int t) {
        return tables.has(t) ? tables.tableOf(t).weight(trail) : UNKNOWN;
    }

    public int as(int t, int kind) {
        return settle(takeAs(t, kind));
    }

    public int history() {
        return trail.value;
    }

    public int fault() {
        return latestFault;
    }

    public int told(int what) {
        switch (what) {
            case 0:
                return tables.count();
            case 1:
                return tables.dimension();
            case 2:
                return tables.modulus();
            case 3:
                return wordCount;
            case 4:
                return tables.countAllowedPairs();
            default:
                return OUTSIDE;
        }
    }

    // ---- behind the face

    private static boolean isWithin(int v, int least, int greatest) {
        return v >= least && v <= greatest;
    }

    private static boolean isSheet(int k) {
        return isWithin(k, 0, SHEETS - 1);
    }

    private static boolean isLane(int lane) {
        return isWithin(lane, 0, LANES - 1);
    }

    private static int faultAnswer(int fault) {
        return FAULT_BASE - fault;
    }

    /** Every call that names FAULTS ends here, so that none of them leaves an older one's fault behind. */
    private int settle(int answer) {
        latestFault = isWithin(answer, FAULT_BASE - SIZE, FAULT_BASE - NULL) ? FAULT_BASE - answer : 0;
        return answer;
    }

    private int lookAtCells(int k, int lane, int i, int n) {
        if (!isSheet(k)) {
            return UNKNOWN;
        }
        if (!isLane(lane)) {
            return OUTSIDE;
        }
        Sheet sheet = sheets[k];
        if (sheet.hasRow && sheet.lane != lane) {
            return faultAnswer(CAST);
        }
        if (!sheet.hasRow) {
            return faultAnswer(NULL);
        }
        if (n < 0) {
            return faultAnswer(SIZE);
        }
        return sheet.hasCells(i, n) ? FINE : faultAnswer(INDEX);
    }

    private int addTable(int k, int lane, int i) {
        int cellCount = tables.cellCount();
        int answer = lookAtCells(k, lane, i, cellCount);
        if (answer != FINE) {
            return answer;
        }
        int[] cells = sheets[k].cells;
        for (int cell = 0; cell < cellCount; cell++) {
            if (!isWithin(cells[i + cell], -MAX_ENTRY, MAX_ENTRY)) {
                return OUTSIDE;
            }
        }
        if (tables.count() >= MAX_TABLES) {
            return FULL;
        }
        lengths.forget();
        closure.forget();
        return tables.add(cells, i);
    }

    private int keepWord(int k, int lane, int i, int n) {
        int answer = lookAtCells(k, lane, i, n);
        if (answer != FINE) {
            return answer;
        }
        if (!isWithin(n, 1, MAX_LETTERS)) {
            return OUTSIDE;
        }
        int[] cells = sheets[k].cells;
        for (int j = 0; j < n; j++) {
            if (!tables.has(cells[i + j])) {
                return UNKNOWN;
            }
        }
        if (wordCount >= MAX_WORDS) {
            return FULL;
        }
        Word word = words[wordCount];
        word.clear();
        for (int j = 0; j < n; j++) {
            word.append(cells[i + j]);
        }
        return finishWord();
    }

    /** TABLES never change while a WORD is kept, so its PRODUCT is made once. */
    private int finishWord() {
        Word word = words[wordCount];
        tables.multiplyAll(word.letters, word.letterCount, word.row);
        wordCount++;
        return wordCount - 1;
    }

    private boolean hasWord(int w) {
        return isWithin(w, 0, wordCount - 1);
    }

    private boolean isRing(Word word) {
        return tables.isAllowed(word.letters, word.letterCount)
                && tables.isTurnable(word.letters, word.letterCount)
                && Spelling.isAheadOfItsTurns(word.letters, word.letterCount);
    }

    private int renewSheet(int k, int lane, int n) {
        if (!isSheet(k)) {
            return UNKNOWN;
        }
        if (!isLane(lane) || n > MAX_ROW) {
            return OUTSIDE;
        }
        if (n < 0) {
            return faultAnswer(SIZE);
        }
        sheets[k].renew(lane, n);
        return 1;
    }

    private int putCell(int k, int i, int v) {
        if (!isSheet(k)) {
            return UNKNOWN;
        }
        if (!sheets[k].hasRow) {
            return faultAnswer(NULL);
        }
        if (!sheets[k].hasCells(i, 1)) {
            return faultAnswer(INDEX);
        }
        sheets[k].write(i, v);
        return 1;
    }

    private int takeAs(int t, int kind) {
        if (!tables.has(t)) {
            return UNKNOWN;
        }
        if (!isWithin(kind, 0, KINDS - 1)) {
            return OUTSIDE;
        }
        return tables.tableOf(t).isOfKind(kind) ? 1 : faultAnswer(CAST);
    }

    /** HISTORY: what the bodies of TELLING leave behind. */
    private static final class Trail {
        int value;

        void leave(int number) {
            value = 31 * value + number;
        }
    }

    /** A SHEET; its cells are ints in every LANE, cut as they are written. */
    private static final class Sheet {
        final int[] cells = new int[MAX_ROW];
        int cellCount;
        int lane;
        boolean hasRow;

        void renew(int newLane, int n) {
            Arrays.fill(cells, 0);
            lane = newLane;
            cellCount = n;
            hasRow = true;
        }

        boolean drop() {
            boolean had = hasRow;
            hasRow = false;
            return had;
        }

        /** No cells at all are there wherever they should begin. */
        boolean hasCells(int i, int n) {
            return n == 0 || i >= 0 && n <= cellCount && i <= cellCount - n;
        }

        void write(int i, int v) {
            switch (lane) {
                case 0:
                    cells[i] = (byte) v;
                    break;
                case 1:
                    cells[i] = (short) v;
                    break;
                default:
                    cells[i] = v;
                    break;
            }
        }
    }

    /** A TABLE of any kind. */
    private static class Table {
        final int number;
        final int d;
        final int[] entries;

        Table(int number, int d, int[] entries) {
            this.number = number;
            this.d = d;
            this.entries = entries;
        }

        int telling(Trail trail) {
            return plainTelling(trail);
        }

        /** Apart from telling, so that a SHUFFLE can leave EVEN's body out. */
        final int plainTelling(Trail trail) {
            trail.leave(1);
            int sum = 0;
            for (int i = 0; i < d; i++) {
                sum += entries[i * d + i];
            }
            return sum;
        }

        int weight(Trail trail) {
            trail.leave(4);
            return number;
        }

        boolean isOfKind(int kind) {
            return kind == 0;
        }
    }

    private static class EvenTable extends Table {
        EvenTable(int number, int d, int[] entries) {
            super(number, d, entries);
        }

        int telling(Trail trail) {
            trail.leave(2);
            return super.telling(trail) + greatestEntry();
        }

        final int greatestEntry() {
            int greatest = 0;
            for (int cell = 0; cell < d * d; cell++) {
                greatest = Math.max(greatest, entries[cell]);
            }
            return greatest;
        }

        boolean isOfKind(int kind) {
            return kind == 1 || super.isOfKind(kind);
        }
    }

    private static final class ShuffleTable extends EvenTable {
        private static final int OWN_WEIGHT = 60;

        ShuffleTable(int number, int d, int[] entries) {
            super(number, d, entries);
        }

        int telling(Trail trail) {
            trail.leave(3);
            int asEven = super.telling(trail);
            return asEven + plainTelling(trail);
        }

        int weight(Trail trail) {
            trail.leave(5);
            return OWN_WEIGHT;
        }

        boolean isOfKind(int kind) {
            return kind == 2 || super.isOfKind(kind);
        }
    }

    /** The TABLES with D, M and MAY, and the reckoning with rows of D times D numbers. */
    private static final class Tables {
        private final Table[] all = new Table[MAX_TABLES];
        private final long[][] rows = new long[MAX_TABLES][MAX_CELLS];
        private final boolean[] allowed = new boolean[MAX_TABLES * MAX_TABLES];
        private final long[] scratch = new long[MAX_CELLS];
        private int tableCount;
        private int d = MIN_D;
        private int m;

        Tables() {
            allowAll();
        }

        void restart(int newD, int newM) {
            d = newD;
            m = newM;
            tableCount = 0;
            allowAll();
        }

        private void allowAll() {
            for (int pair = 0; pair < MAX_TABLES * MAX_TABLES; pair++) {
                allowed[pair] = true;
            }
        }

        int count() {
            return tableCount;
        }

        int dimension() {
            return d;
        }

        int modulus() {
            return m;
        }

        int cellCount() {
            return d * d;
        }

        boolean has(int t) {
            return t >= 0 && t < tableCount;
        }

        Table tableOf(int t) {
            return all[t];
        }

        /** The PRODUCT of the WORD of this one LETTER. */
        long[] rowOf(int t) {
            return rows[t];
        }

        boolean isPlace(int r, int c) {
            return r >= 0 && r < d && c >= 0 && c < d;
        }

        int cellOf(int r, int c) {
            return r * d + c;
        }

        int add(int[] cells, int from) {
            int number = tableCount;
            int[] entries = Arrays.copyOfRange(cells, from, from + d * d);
            for (int cell = 0; cell < d * d; cell++) {
                rows[number][cell] = restOf(entries[cell]);
            }
            all[number] = makeTable(number, entries);
            tableCount++;
            return number;
        }

        private Table makeTable(int number, int[] entries) {
            if (isShuffle(entries)) {
                return new ShuffleTable(number, d, entries);
            }
            return isEven(entries) ? new EvenTable(number, d, entries) : new Table(number, d, entries);
        }

        private boolean isEven(int[] entries) {
            for (int cell = 0; cell < d * d; cell++) {
                if (entries[cell] < 0) {
                    return false;
                }
            }
            return true;
        }

        /** Where no entry is below 0, a sum of 1 can only be one 1 and else 0. */
        private boolean isShuffle(int[] entries) {
            if (!isEven(entries)) {
                return false;
            }
            for (int i = 0; i < d; i++) {
                int rowSum = 0;
                int columnSum = 0;
                for (int j = 0; j < d; j++) {
                    rowSum += entries[i * d + j];
                    columnSum += entries[j * d + i];
                }
                if (rowSum != 1 || columnSum != 1) {
                    return false;
                }
            }
            return true;
        }

        boolean mayFollow(int a, int b) {
            return allowed[a * MAX_TABLES + b];
        }

        void allow(int a, int b, boolean is) {
            allowed[a * MAX_TABLES + b] = is;
        }

        int countAllowedPairs() {
            int pairs = 0;
            for (int a = 0; a < tableCount; a++) {
                for (int b = 0; b < tableCount; b++) {
                    if (mayFollow(a, b)) {
                        pairs++;
                    }
                }
            }
            return pairs;
        }

        boolean isAllowed(int[] letters, int n) {
            for (int i = 1; i < n; i++) {
                if (!mayFollow(letters[i - 1], letters[i])) {
                    return false;
                }
            }
            return true;
        }

        boolean isTurnable(int[] letters, int n) {
            return mayFollow(letters[n - 1], letters[0]);
        }

        private long restOf(long v) {
            if (m <= 0) {
                return v;
            }
            long rest = v % m;
            return rest < 0 ? rest + m : rest;
        }

        /** The row that is written is neither of the two that are read. */
        void multiply(long[] left, long[] right, long[] into) {
            for (int r = 0; r < d; r++) {
                for (int c = 0; c < d; c++) {
                    long sum = 0;
                    for (int k = 0; k < d; k++) {
                        sum += left[r * d + k] * right[k * d + c];
                    }
                    into[r * d + c] = restOf(sum);
                }
            }
        }

        void multiplyAll(int[] letters, int n, long[] into) {
            System.arraycopy(rows[letters[0]], 0, into, 0, MAX_CELLS);
            for (int i = 1; i < n; i++) {
                multiply(into, rows[letters[i]], scratch);
                System.arraycopy(scratch, 0, into, 0, MAX_CELLS);
            }
        }

        long norm(long[] row) {
            long greatest = 0;
            for (int r = 0; r < d; r++) {
                long sum = 0;
                for (int c = 0; c < d; c++) {
                    sum += Math.abs(row[r * d + c]);
                }
                greatest = Math.max(greatest, sum);
            }
            return greatest;
        }

        long track(long[] row) {
            long sum = 0;
            for (int i = 0; i < d; i++) {
                sum += row[i * d + i];
            }
            return sum;
        }

        boolean isUnit(long[] row) {
            for (int r = 0; r < d; r++) {
                for (int c = 0; c < d; c++) {
                    if (row[r * d + c] != (r == c ? 1 : 0)) {
                        return false;
                    }
                }
            }
            return true;
        }
    }

    /** What can be said of a row of LETTERS without knowing its TABLES. */
    private static final class Spelling {
        static int repeats(int[] letters, int n) {
            for (int period = 1; period < n; period++) {
                if (n % period == 0 && hasPeriod(letters, n, period)) {
                    return n / period;
                }
            }
            return 1;
        }

        private static boolean hasPeriod(int[] letters, int n, int period) {
            for (int i = period; i < n; i++) {
                if (letters[i] != letters[i - period]) {
                    return false;
                }
            }
            return true;
        }

        /** A WORD taken twice or more is one of its own turns, and so not ahead of that one. */
        static boolean isAheadOfItsTurns(int[] letters, int n) {
            for (int moved = 1; moved < n; moved++) {
                if (!isAheadOfTurn(letters, n, moved)) {
                    return false;
                }
            }
            return true;
        }

        private static boolean isAheadOfTurn(int[] letters, int n, int moved) {
            for (int i = 0; i < n; i++) {
                int turned = letters[(i + moved) % n];
                if (letters[i] != turned) {
                    return letters[i] < turned;
                }
            }
            return false;
        }
    }

    /** A WORD kept, with its PRODUCT. */
    private static final class Word {
        final int[] letters = new int[MAX_LETTERS];
        final long[] row = new long[MAX_CELLS];
        int letterCount;

        void clear() {
            letterCount = 0;
        }

        void append(int letter) {
            if (letterCount < MAX_LETTERS) {
                letters[letterCount] = letter;
                letterCount++;
            }
        }

        void appendAll(Word other) {
            for (int i = 0; i < other.letterCount; i++) {
                append(other.letters[i]);
            }
        }
    }

    /** What was found of one LENGTH. */
    private static final class Survey {
        final int[] greatestWord = new int[MAX_LENGTH];
        final int[] leastWord = new int[MAX_LENGTH];
        final int[] ringWord = new int[MAX_LENGTH];
        boolean isDone;
        int noughts;
        int ringCount;
        long greatest;
        long least;
        long greatestRingTrack;
        long greatestTurnableTrack;

        void restart() {
            isDone = false;
            noughts = 0;
            ringCount = 0;
            greatest = -1;
            least = Long.MAX_VALUE;
            greatestRingTrack = 0;
            greatestTurnableTrack = -1;
        }

        void noteNorm(int[] letters, int n, long norm) {
            if (norm == 0) {
                noughts++;
            }
            if (norm > greatest) {
                greatest = norm;
                System.arraycopy(letters, 0, greatestWord, 0, n);
            }
            if (norm < least) {
                least = norm;
                System.arraycopy(letters, 0, leastWord, 0, n);
            }
        }

        void noteTurnable(long track) {
            greatestTurnableTrack = Math.max(greatestTurnableTrack, Math.abs(track));
        }

        void noteRing(int[] letters, int n, long track) {
            ringCount++;
            if (ringCount == 1 || Math.abs(track) > Math.abs(greatestRingTrack)) {
                greatestRingTrack = track;
                System.arraycopy(letters, 0, ringWord, 0, n);
            }
        }
    }

    /** LENGTHS; each is surveyed once until TABLES or MAY change. */
    private static final class Lengths {
        private final Tables tables;
        private final Survey[] surveys = new Survey[MAX_LENGTH + 1];
        private final int[][] ways = new int[MAX_LENGTH + 1][MAX_TABLES];
        private final long[][] prefixes = new long[MAX_LENGTH][MAX_CELLS];
        private final int[] letters = new int[MAX_LENGTH];
        private boolean hasWays;

        Lengths(Tables tables) {
            this.tables = tables;
            for (int n = 0; n <= MAX_LENGTH; n++) {
                surveys[n] = new Survey();
            }
        }

        void forget() {
            hasWays = false;
            for (int n = 0; n <= MAX_LENGTH; n++) {
                surveys[n].isDone = false;
            }
        }

        boolean isSpent(int n) {
            return countOf(n) > MAX_LENGTH_WORDS;
        }

        int countOf(int n) {
            findWays();
            int count = 0;
            for (int letter = 0; letter < tables.count(); letter++) {
                count += ways[n][letter];
            }
            return count;
        }

        /** ways[n][letter]: how many ALLOWED WORDS of n LETTERS begin with it; the walk leaves dead ends out by it. */
        private void findWays() {
            if (hasWays) {
                return;
            }
            Arrays.fill(ways[1], 1);
            for (int n = 2; n <= MAX_LENGTH; n++) {
                for (int letter = 0; letter < tables.count(); letter++) {
                    ways[n][letter] = countWays(n, letter);
                }
            }
            hasWays = true;
        }

        private int countWays(int n, int letter) {
            int sum = 0;
            for (int next = 0; next < tables.count(); next++) {
                if (tables.mayFollow(letter, next)) {
                    sum += ways[n - 1][next];
                }
            }
            return sum;
        }

        Survey surveyOf(int n) {
            Survey survey = surveys[n];
            if (!survey.isDone) {
                findWays();
                survey.restart();
                walk(this, survey, n, 0);
                survey.isDone = true;
            }
            return survey;
        }

        private static void walk(Lengths lengths, Survey survey, int n, int depth) {
            if (depth >= n) {
                lengths.noteWord(survey, n);
                return;
            }
            for (int letter = 0; letter < lengths.tables.count(); letter++) {
                if (lengths.leadsOn(n, depth, letter)) {
                    lengths.extendPrefix(depth, letter);
                    walk(lengths, survey, n, depth + 1);
                }
            }
        }

        private boolean leadsOn(int n, int depth, int letter) {
            return ways[n - depth][letter] > 0
                    && (depth == 0 || tables.mayFollow(letters[depth - 1], letter));
        }

        private void extendPrefix(int depth, int letter) {
            letters[depth] = letter;
            if (depth == 0) {
                System.arraycopy(tables.rowOf(letter), 0, prefixes[0], 0, MAX_CELLS);
            } else {
                tables.multiply(prefixes[depth - 1], tables.rowOf(letter), prefixes[depth]);
            }
        }

        private void noteWord(Survey survey, int n) {
            long[] row = prefixes[n - 1];
            survey.noteNorm(letters, n, tables.norm(row));
            if (!tables.isTurnable(letters, n)) {
                return;
            }
            long track = tables.track(row);
            survey.noteTurnable(track);
            if (Spelling.isAheadOfItsTurns(letters, n)) {
                survey.noteRing(letters, n, track);
            }
        }

        /** The longest row of LETTERS here is short enough that no side of a comparison leaves a long. */
        int compareGrowth(int a, int b, int n) {
            boolean isBelow = false;
            long aPower = 1;
            long bPower = 1;
            for (int k = 1; k <= n; k++) {
                aPower *= a;
                bPower *= b;
                Survey survey = surveyOf(k);
                if (survey.greatestTurnableTrack * bPower > tables.dimension() * aPower) {
                    return 1;
                }
                isBelow = isBelow || countOf(k) == 0 || survey.greatest * bPower < aPower;
            }
            return isBelow ? -1 : 0;
        }
    }

    /** All PRODUCTS, found anew only when TABLES have changed. */
    private static final class Closure {
        private static final int UNSOUGHT = 0, FOUND = 1, TOO_MUCH = 2;
        private static final int SLOTS = 4096;

        private final Tables tables;
        private final long[] left = new long[MAX_CELLS];
        private final long[] right = new long[MAX_CELLS];
        private final long[] candidate = new long[MAX_CELLS];
        private long[] entries;
        private int[] wordLengths;
        private int[] slots;
        private int state = UNSOUGHT;
        private int cellCount;
        int count;
        int unit;
        int ownSquares;
        boolean hasNought;

        Closure(Tables tables) {
            this.tables = tables;
        }

        void forget() {
            state = UNSOUGHT;
        }

        boolean isFound() {
            return state == FOUND;
        }

        boolean has(int k) {
            return isFound() && k >= 0 && k < count;
        }

        int search() {
            if (state == UNSOUGHT) {
                state = findAll() ? FOUND : TOO_MUCH;
            }
            return state == FOUND ? count : SPENT;
        }

        long entryAt(int k, int cell) {
            return entries[k * MAX_CELLS + cell];
        }

        int lastWordLength() {
            return count > 0 ? wordLengths[count - 1] : 0;
        }

        int numberOfProduct(int k, int j) {
            multiplyNumbered(k, j);
            int slot = slotOf(candidate);
            return slots[slot] == 0 ? UNKNOWN : slots[slot] - 1;
        }

        private boolean findAll() {
            prepareRows();
            for (int letter = 0; letter < tables.count(); letter++) {
                if (!take(tables.rowOf(letter), 1)) {
                    return false;
                }
            }
            for (int k = 0; k < count && k < MAX_PRODUCTS; k++) {
                if (!extendByLetters(k)) {
                    return false;
                }
            }
            sumUp();
            return true;
        }

        /** Most objects never seek a CLOSURE, so the long rows wait for the first search. */
        private void prepareRows() {
            if (entries == null || wordLengths == null || slots == null) {
                entries = new long[MAX_PRODUCTS * MAX_CELLS];
                wordLengths = new int[MAX_PRODUCTS];
                slots = new int[SLOTS];
            }
            Arrays.fill(slots, 0);
            cellCount = tables.cellCount();
            count = 0;
        }

        private boolean extendByLetters(int k) {
            load(k, left);
            for (int letter = 0; letter < tables.count(); letter++) {
                tables.multiply(left, tables.rowOf(letter), candidate);
                if (!take(candidate, wordLengths[k] + 1)) {
                    return false;
                }
            }
            return true;
        }

        private boolean take(long[] row, int wordLength) {
            if (isBeyond(row)) {
                return false;
            }
            int slot = slotOf(row);
            if (slots[slot] != 0) {
                return true;
            }
            if (count >= MAX_PRODUCTS) {
                return false;
            }
            System.arraycopy(row, 0, entries, count * MAX_CELLS, cellCount);
            wordLengths[count] = wordLength;
            count++;
            slots[slot] = count;
            return true;
        }

        private boolean isBeyond(long[] row) {
            for (int cell = 0; cell < cellCount; cell++) {
                if (Math.abs(row[cell]) > MAX_PRODUCT_ENTRY) {
                    return true;
                }
            }
            return false;
        }

        /** The slot that holds the row's number and 1, or the empty one (0) where it belongs; half the slots stay empty. */
        private int slotOf(long[] row) {
            int slot = firstSlotOf(row);
            for (int step = 0; step < SLOTS; step++) {
                if (slots[slot] == 0 || isSame(slots[slot] - 1, row)) {
                    return slot;
                }
                slot = (slot + 1) & (SLOTS - 1);
            }
            return slot;
        }

        private int firstSlotOf(long[] row) {
            int mixed = 0;
            for (int cell = 0; cell < cellCount; cell++) {
                mixed = mixed * 1000003 + (int) row[cell];
            }
            mixed ^= mixed >>> 15;
            return (mixed ^ (mixed >>> 7)) & (SLOTS - 1);
        }

        private boolean isSame(int k, long[] row) {
            for (int cell = 0; cell < cellCount; cell++) {
                if (entries[k * MAX_CELLS + cell] != row[cell]) {
                    return false;
                }
            }
            return true;
        }

        private void load(int k, long[] into) {
            System.arraycopy(entries, k * MAX_CELLS, into, 0, MAX_CELLS);
        }

        private void multiplyNumbered(int k, int j) {
            load(k, left);
            load(j, right);
            tables.multiply(left, right, candidate);
        }

        private void sumUp() {
            hasNought = false;
            unit = NONE;
            ownSquares = 0;
            for (int k = 0; k < count; k++) {
                multiplyNumbered(k, k);
                if (isSame(k, candidate)) {
                    ownSquares++;
                }
                if (tables.isUnit(left)) {
                    unit = k;
                }
                if (tables.norm(left) == 0) {
                    hasNought = true;
                }
            }
        }
    }
}
