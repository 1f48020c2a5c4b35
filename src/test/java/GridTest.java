import java.util.ArrayList;
import java.util.Arrays;
import java.util.List;

/**
 * Every call with every choice among numbers at the document's edges and far outside, on objects that have come to be
 * new, stocked, with M, full or SPENT: AnyOrder and PlainOrder must answer alike, and tell the same fault() behind it.
 */
public final class GridTest {
    private static final int LEAST = Integer.MIN_VALUE, MOST = Integer.MAX_VALUE;
    private static final int CALLS_OF_AN_OBJECT = 512;
    private static final int[] ANY = {LEAST, -1, 0, 1, 2, 3, 4, 5, 6, 7, 8, 9, 10, 12, 13, 40, 41, 97, 98, MOST};
    private static final int[] FEW = {LEAST, -1, 0, 1, 2, 3, 5, 6, 7, 9, 10, MOST};
    private static final int[] SHEETS = {-1, 0, 1, 2, 3, 4, MOST};
    private static final int[] LANES = {LEAST, -1, 0, 1, 2, 3};
    private static final int[] CELLS = {LEAST, -1, 0, 1, 2, 5, 6, 9, 28, 36, 39, 40, MOST};
    private static final int[] TRUTHS = {0, 1};

    private final Check check = new Check();
    private List<int[]> numbers = new ArrayList<>();
    private List<String> names = new ArrayList<>();
    private AnyOrder real = new AnyOrder();
    private PlainOrder plain = new PlainOrder();
    private int calls;

    public static void main(String[] args) {
        GridTest grid = new GridTest();
        grid.ofNew();
        grid.ofStocked();
        grid.ofRests();
        grid.ofFull();
        grid.ofSpent();
        grid.check.end();
    }

    private void state(String name) {
        check.part(name);
        names = new ArrayList<>();
        numbers = new ArrayList<>();
    }

    private void first(String name, int... p) {
        names.add(name);
        numbers.add(p);
    }

    private void fill(int sheet, int lane, int... cells) {
        first("sheet", sheet, lane, cells.length);
        for (int i = 0; i < cells.length; i++) {
            if (cells[i] != 0) {
                first("put", sheet, i, cells[i]);
            }
        }
    }

    private void ofNew() {
        state("new");
        allCalls();
    }

    private void ofStocked() {
        state("stocked");
        fill(0, 0, 0, 1, 1, 0, 0, 0, 10, 1, -1);
        fill(1, 1, 1, 0, 1, 1, 2, 0, 0, 0, 0, 1, 1, 0, 1, 5);
        first("sheet", 2, 2, 40);
        first("table", 0, 0, 0);
        first("table", 0, 0, 2);
        first("word", 1, 1, 0, 2);
        first("word", 1, 1, 1, 3);
        first("word", 2, 2, 0, 6);
        first("may", 1, 1, 0);
        first("close");
        first("tell", 0);
        allCalls();
    }

    private void ofRests() {
        state("D 3, M 7");
        first("begin", 3, 7);
        fill(0, 0, 0, 0, 3, 2, 0, 0, 0, -1, 0);
        fill(3, 2, 0, 1, 0, 0, 0, 1, 1, 0, 0, 0, 0);
        first("table", 0, 0, 0);
        first("table", 3, 2, 0);
        first("word", 3, 2, 0, 5);
        first("join", 0, 0);
        first("close");
        first("put", 1, 0, 0);
        allCalls();
    }

    private void ofFull() {
        state("full");
        fill(0, 2, 2, -1, 0, 1, 0, 0, 1, 1, 0, -9, 9, 0, 0);
        for (int t = 0; t < 6; t++) {
            first("table", 0, 2, t);
        }
        // Each LETTER has two that may come behind it.
        for (int pair = 0; pair < 36; pair++) {
            int step = (pair % 6 - pair / 6 + 6) % 6;
            if (step != 1 && step != 4) {
                first("may", pair / 6, pair % 6, 0);
            }
        }
        fill(1, 0, 0, 1, 5, 3, 4, 2, 0, 0, 0, 0, 0, 0);
        for (int w = 0; w < 10; w++) {
            first("word", 1, 0, w % 4, 2 + w % 3 + (w == 9 ? 6 : 0));
        }
        first("weigh", 5);
        allCalls();
    }

    private void ofSpent() {
        state("spent");
        fill(0, 1, 1, 1, 0, 1, 1, -2);
        for (int t = 0; t < 3; t++) {
            first("table", 0, 1, t);
            first("table", 0, 1, 0);
        }
        fill(2, 0, 0, 5);
        first("word", 2, 0, 0, 2);
        first("close");
        allCalls();
    }

    private void allCalls() {
        tableCalls();
        lengthCalls();
        closureCalls();
        wordCalls();
        sheetCalls();
    }

    private void tableCalls() {
        each("begin", 1, ANY, ANY);
        each("table", 3, SHEETS, LANES, CELLS);
        each("entry", 300, ANY, FEW, FEW);
        each("may", 20, FEW, FEW, TRUTHS);
        each("told", 300, ANY);
    }

    private void lengthCalls() {
        each("length", 200, ANY, FEW);
        each("extreme", 200, FEW, FEW, FEW);
        each("rings", 200, ANY);
        each("ringTrack", 200, ANY);
        each("ring", 200, FEW, FEW);
        each("growth", 200, FEW, FEW, new int[] {LEAST, 0, 1, 2, 4, 8, MOST});
    }

    private void closureCalls() {
        each("close", 2);
        each("closed", 100, ANY);
        each("product", 200, ANY, FEW, FEW);
        each("times", 200, ANY, ANY);
    }

    private void wordCalls() {
        each("word", 4, SHEETS, LANES, CELLS, CELLS);
        each("join", 3, FEW, FEW);
        each("letter", 200, FEW, ANY);
        each("about", 200, ANY, FEW);
        each("entryOf", 200, FEW, FEW, FEW);
        each("size", 200, ANY, FEW);
    }

    private void sheetCalls() {
        each("sheet", 4, SHEETS, LANES, ANY);
        each("lose", 3, ANY);
        each("put", 50, SHEETS, CELLS, new int[] {LEAST, -32769, -129, -1, 0, 127, 128, 32768, 65536, MOST});
        each("at", 50, SHEETS, CELLS, LANES);
        each("tell", 50, ANY);
        each("weigh", 50, ANY);
        each("as", 50, FEW, FEW);
        each("history", 2);
        each("fault", 2);
    }

    /** The call with all choices, so many of them on one object. */
    private void each(String name, int together, int[]... choices) {
        int all = Arrays.stream(choices).mapToInt(c -> c.length).reduce(1, (a, b) -> a * b);
        for (int choice = 0; choice < all; choice++) {
            if (choice % together == 0) {
                anew();
            }
            int[] p = new int[choices.length];
            int rest = choice;
            for (int i = p.length - 1; i >= 0; i--) {
                p[i] = choices[i][rest % choices[i].length];
                rest /= choices[i].length;
            }
            compare(name, p);
            if (Calls.namesFaults(name)) {
                compare("fault");
            }
            if (choice % together == together - 1 || choice == all - 1) {
                finish();
            }
        }
    }

    private void anew() {
        real = new AnyOrder();
        plain = new PlainOrder();
        calls = 0;
        for (int i = 0; i < names.size(); i++) {
            compare(names.get(i), numbers.get(i));
        }
    }

    /** What is easily told of the object, so that a change that no answer owns to is seen. */
    private void finish() {
        compare("fault");
        compare("history");
        for (int what = 0; what < 5; what++) {
            compare("told", what);
            compare("closed", what);
        }
        for (int k = 0; k < 4; k++) {
            for (int lane = 0; lane < 3; lane++) {
                compare("at", k, 0, lane);
                compare("fault");
            }
        }
    }

    private void compare(String name, int... p) {
        calls++;
        check.holds("an object is used for 512 calls at most", calls <= CALLS_OF_AN_OBJECT);
        check.due(Calls.text(name, p), Calls.ask(real, name, p), plain.call(name, p));
    }
}
