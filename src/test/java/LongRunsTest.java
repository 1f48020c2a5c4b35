import java.math.BigInteger;
import java.util.TreeSet;

/** Runs of 512 calls on one object, the last of them answered as the first; what is due is reckoned another way. */
public final class LongRunsTest {
    private static final int CALLS_OF_AN_OBJECT = 512;
    private static final int UNKNOWN = -1, OUTSIDE = -2, STATE = -3, FULL = -4, SPENT = -6, NONE = -9;
    private static final int NULL = -11, CAST = -12, INDEX = -13, SIZE = -14;
    private static final long LOST = Long.MIN_VALUE;

    private static final Check CHECK = new Check();

    private final AnyOrder x = new AnyOrder();
    private int calls;

    public static void main(String[] args) {
        run("29 history, 26 tell, 27 weigh").histories();
        run("5 may, 6 length, 8 rings, 31 told").mays();
        run("2 begin, 3 table, 12 close, 13 closed").moduli();
        run("12 close, 13 closed, 15 times").closures();
        run("16 word, 17 join, 18 letter, 19 about, 21 size").words();
        run("22 sheet, 23 lose, 24 put, 25 at").sheets();
        run("30 fault").faults();
        run("refusals change nothing").refusals();
        run("11 growth").growths();
        CHECK.end();
    }

    private static LongRunsTest run(String promises) {
        CHECK.part(promises);
        return new LongRunsTest();
    }

    private void due(long want, String name, int... p) {
        calls++;
        CHECK.due("call " + calls + ": " + Calls.text(name, p), Calls.ask(x, name, p), want);
    }

    private boolean hasLeft(int wanted) {
        return calls + wanted <= CALLS_OF_AN_OBJECT;
    }

    private void end() {
        CHECK.due("calls", calls, CALLS_OF_AN_OBJECT);
    }

    private void fill(int sheet, int lane, int... cells) {
        due(1, "sheet", sheet, lane, cells.length);
        for (int i = 0; i < cells.length; i++) {
            due(1, "put", sheet, i, cells[i]);
        }
    }

    private void histories() {
        fill(0, 0, -1, 3, 3, 5);
        due(0, "table", 0, 0, 0);
        fill(0, 0, 2, 3, 3, 5);
        due(1, "table", 0, 0, 0);
        fill(0, 0, 1, 0, 0, 1);
        due(2, "table", 0, 0, 0);
        int[][] bodies = {{1}, {2, 1}, {3, 2, 1, 1}, {4}, {4}, {5}};
        int[] answers = {4, 12, 5, 0, 1, 60};
        BigInteger history = BigInteger.ZERO;
        for (int i = 0; hasLeft(2); i++) {
            int which = (i * i + i / 6) % 6;
            due(answers[which], which < 3 ? "tell" : "weigh", which % 3);
            for (int body : bodies[which]) {
                history = history.multiply(BigInteger.valueOf(31)).add(BigInteger.valueOf(body));
            }
        }
        due(history.intValue(), "history");
        end();
    }

    private void mays() {
        fill(0, 2, 1, 0, 0, 0);
        for (int t = 0; t < 3; t++) {
            due(t, "table", 0, 2, 0);
        }
        boolean[][] may = {{true, true, true}, {true, true, true}, {true, true, true}};
        for (int i = 0; hasLeft(7); i++) {
            int a = i * 5 % 9 / 3;
            int b = i * 5 % 9 % 3;
            boolean is = i / 9 % 3 == 1;
            due(may[a][b] == is ? 0 : 1, "may", a, b, is ? 1 : 0);
            may[a][b] = is;
            due(ways(may, 1), "told", 4);
            due(ways(may, 1), "length", 2, 0);
            due(ways(may, 7), "length", 8, 0);
            due(ways(may, 7) == 0 ? LOST : 1, "length", 8, 1);
            due(roundTrips(may, 1), "rings", 1);
            due((roundTrips(may, 3) - roundTrips(may, 1)) / 3, "rings", 3);
        }
        while (hasLeft(1)) {
            due(ways(may, 3), "length", 4, 0);
        }
        end();
    }

    /** How many ways of so many steps there are from one to another. */
    private static long ways(boolean[][] may, int steps) {
        long sum = 0;
        for (long[] row : power(may, steps)) {
            for (long ways : row) {
                sum += ways;
            }
        }
        return sum;
    }

    private static long roundTrips(boolean[][] may, int steps) {
        long[][] ways = power(may, steps);
        return ways[0][0] + ways[1][1] + ways[2][2];
    }

    private static long[][] power(boolean[][] may, int steps) {
        long[][] ways = {{1, 0, 0}, {0, 1, 0}, {0, 0, 1}};
        for (int step = 0; step < steps; step++) {
            long[][] next = new long[3][3];
            for (int cell = 0; cell < 27; cell++) {
                next[cell / 9][cell / 3 % 3] += may[cell % 3][cell / 3 % 3] ? ways[cell / 9][cell % 3] : 0;
            }
            ways = next;
        }
        return ways;
    }

    /** With each M there is the CLOSURE of the powers of 2. */
    private void moduli() {
        fill(0, 1, 2, 0, 0, 0);
        for (int m = 2; m <= 97; m++) {
            TreeSet<Integer> powers = new TreeSet<>();
            for (int k = 1, power = 2 % m; k <= m; k++, power = power * 2 % m) {
                powers.add(power);
            }
            int modulus = m;
            due(1, "begin", 2, m);
            due(0, "table", 0, 1, 0);
            due(powers.size(), "close");
            due(powers.contains(0) ? 1 : 0, "closed", 1);
            due(powers.stream().filter(p -> p * p % modulus == p).count(), "closed", 3);
        }
        while (hasLeft(2)) {
            due(48, "closed", 4);
            due(97, "told", 2);
        }
        due(OUTSIDE, "begin", 2, 98);
        end();
    }

    /** Turn about 1600 products, the last of 78 LETTERS, and too many of them. */
    private void closures() {
        fill(0, 1, 6, 0, 0, 1, 0, 0, 6);
        while (hasLeft(20)) {
            due(1, "begin", 2, 41);
            due(0, "table", 0, 1, 0);
            due(1, "table", 0, 1, 3);
            due(1600, "close");
            due(1600, "closed", 0);
            due(0, "closed", 1);
            due(819, "closed", 2);
            due(1, "closed", 3);
            due(78, "closed", 4);
            due(1599, "times", 819, 1599);
            due(0, "times", 0, 819);
            due(819, "times", 1599, 3);
            due(7, "product", 1599, 0, 0);
            due(7, "product", 1599, 1, 1);
            due(UNKNOWN, "times", 1600, 0);
            due(1, "begin", 2, 83);
            due(0, "table", 0, 1, 0);
            due(1, "table", 0, 1, 3);
            due(SPENT, "close");
            due(STATE, "closed", 0);
        }
        while (hasLeft(1)) {
            due(SPENT, "close");
        }
        end();
    }

    /** Each WORD is the one ahead of it and the one ahead of that; its TABLES only make all entries 2 or 3 times as great. */
    private void words() {
        fill(0, 0, 2, 0, 0, 2, 3, 0, 0, 3, 0, 1);
        int[] letters = {1, 0, 1, 1, 0, 1, 0, 1};
        while (hasLeft(31)) {
            due(1, "begin", 2, 0);
            due(0, "table", 0, 0, 0);
            due(1, "table", 0, 0, 4);
            due(0, "word", 0, 0, 8, 1);
            due(1, "word", 0, 0, 9, 1);
            for (int w = 2; w < 6; w++) {
                due(w, "join", w - 1, w - 2);
            }
            due(OUTSIDE, "join", 5, 4);
            for (int w = 6; w < 10; w++) {
                due(w, "join", 0, w - 1);
            }
            due(FULL, "join", 0, 0);
            due(8, "about", 5, 0);
            due(12, "about", 9, 0);
            for (int i = 0; i < 8; i++) {
                due(letters[i], "letter", 5, i);
            }
            due(UNKNOWN, "letter", 5, 8);
            due(8 * 243, "size", 5, 0);
            due(16 * 243, "size", 5, 1);
            due(128 * 243, "size", 9, 0);
            due(0, "about", 5, 2);
            due(1, "about", 9, 2);
        }
        while (hasLeft(1)) {
            due(FULL, "join", 0, 0);
        }
        end();
    }

    private void sheets() {
        int[] lanes = {0, 1, 2, 0};
        for (int k = 0; k < 4; k++) {
            due(NULL, "put", k, 0, 1);
            due(1, "sheet", k, lanes[k], 40);
        }
        int[][] cells = new int[4][40];
        int v = 1;
        for (int i = 0; hasLeft(3); i++) {
            v = v * 1103515245 + 12345;
            int k = i % 4;
            int cell = i * 7 % 40;
            due(cells[k][cell], "at", k, cell, lanes[k]);
            due(1, "put", k, cell, v);
            cells[k][cell] = lanes[k] == 0 ? (byte) v : lanes[k] == 1 ? (short) v : v;
            due(cells[k][cell], "at", k, cell, lanes[k]);
        }
        while (hasLeft(1)) {
            due(cells[0][28], "at", 0, 28, 0);
        }
        end();
    }

    private void faults() {
        while (hasLeft(12)) {
            due(NULL, "put", 0, 0, 0);
            due(1, "fault");
            due(SIZE, "sheet", 0, 0, -1);
            due(4, "fault");
            due(1, "sheet", 0, 1, 3);
            due(0, "fault");
            due(INDEX, "word", 0, 1, 3, 1);
            due(3, "fault");
            due(CAST, "table", 0, 2, 0);
            due(1, "lose", 0);
            due(2, "fault");
            due(OUTSIDE, "sheet", 0, 3, -1);
        }
        while (hasLeft(1)) {
            due(0, "fault");
        }
        end();
    }

    private void refusals() {
        int[] cells = {0, 1, 1, 0, 0, 0, 1, 2, 10};
        fill(0, 2, cells);
        due(0, "table", 0, 2, 0);
        due(1, "table", 0, 2, 2);
        due(0, "word", 0, 2, 5, 2);
        due(7, "close");
        due(1, "may", 1, 0, 0);
        due(1, "tell", 0);
        while (hasLeft(60)) {
            refusedTables();
            refusedLengths();
            refusedWords();
        }
        due(91327, "history");
        due(2, "told", 0);
        due(1, "told", 3);
        due(3, "told", 4);
        due(7, "closed", 0);
        due(3, "length", 2, 0);
        due(0, "letter", 0, 0);
        due(1, "letter", 0, 1);
        for (int i = 0; i < cells.length; i++) {
            due(cells[i], "at", 0, i, 2);
        }
        while (hasLeft(1)) {
            due(0, "lose", 3);
        }
        end();
    }

    private void refusedTables() {
        due(OUTSIDE, "begin", 4, 0);
        due(OUTSIDE, "begin", 2, 1);
        due(UNKNOWN, "table", 4, 2, 0);
        due(OUTSIDE, "table", 0, 3, 0);
        due(CAST, "table", 0, 1, 0);
        due(NULL, "table", 3, 1, 0);
        due(INDEX, "table", 0, 2, 6);
        due(OUTSIDE, "table", 0, 2, 5);
        due(LOST, "entry", 2, 0, 0);
        due(UNKNOWN, "may", 0, 2, 0);
        due(OUTSIDE, "told", 5);
        due(UNKNOWN, "tell", 2);
        due(UNKNOWN, "weigh", 2);
        due(UNKNOWN, "as", 2, 0);
        due(OUTSIDE, "as", 0, 3);
        due(CAST, "as", 1, 2);
    }

    private void refusedLengths() {
        due(LOST, "length", 9, 0);
        due(OUTSIDE, "extreme", 2, 0, 2);
        due(OUTSIDE, "rings", 0);
        due(LOST, "ringTrack", 9);
        due(OUTSIDE, "ring", 2, 2);
        due(NONE, "ring", 2, 1);
        due(OUTSIDE, "growth", 1, 1, 8);
        due(OUTSIDE, "closed", 5);
        due(LOST, "product", 7, 0, 0);
        due(UNKNOWN, "times", 7, 0);
    }

    private void refusedWords() {
        due(CAST, "word", 0, 1, 0, 1);
        due(SIZE, "word", 0, 2, 0, -1);
        due(INDEX, "word", 0, 2, 9, 1);
        due(OUTSIDE, "word", 0, 2, 0, 0);
        due(UNKNOWN, "word", 0, 2, 7, 1);
        due(UNKNOWN, "join", 0, 1);
        due(UNKNOWN, "letter", 0, 2);
        due(OUTSIDE, "about", 0, 4);
        due(LOST, "entryOf", 0, 2, 0);
        due(LOST, "size", 0, 2);
        due(OUTSIDE, "sheet", 0, 0, 41);
        due(SIZE, "sheet", 0, 0, -1);
        due(UNKNOWN, "lose", 4);
        due(INDEX, "put", 0, 9, 0);
        due(LOST, "at", 0, 9, 2);
    }

    /** Of 3 times the unit all lengths tell the same: 3 against a / b. */
    private void growths() {
        fill(0, 2, 3, 0, 0, 3);
        due(0, "table", 0, 2, 0);
        for (int i = 0; hasLeft(1); i++) {
            int a = 1 + i % 9;
            int b = 1 + i / 9 % 9;
            due(Integer.compare(3 * b, a), "growth", a, b, 1 + i / 81 % 7);
        }
        end();
    }
}
