import java.util.ArrayList;
import java.util.Arrays;
import java.util.List;
import java.util.stream.IntStream;

/**
 * Tests of the document's sentences that name an edge. Each begins on a new object; what is done to it is kept, so that
 * a refused call can be made on a second one that has come the same way, and both be looked at all over.
 */
final class Edge {
    static final long LOST = Long.MIN_VALUE;
    static final int UNKNOWN = -1, OUTSIDE = -2, STATE = -3, FULL = -4, SPENT = -6, NONE = -9;
    static final int NULL = -11, CAST = -12, INDEX = -13, SIZE = -14;
    static final int LEAST = Integer.MIN_VALUE, MOST = Integer.MAX_VALUE;
    private static final int CALLS_OF_AN_OBJECT = 512;

    private final Check check = new Check();
    private final List<String> names = new ArrayList<>();
    private final List<int[]> numbers = new ArrayList<>();
    private AnyOrder x = new AnyOrder();
    private String sentence = "";

    /** What follows belongs to this sentence and to a new object. */
    void sentence(int promise, String words) {
        sentence = "promise " + promise + ", \"" + words + "\"";
        check.part(sentence);
        anew();
    }

    /** A new object for the same sentence. */
    void anew() {
        x = new AnyOrder();
        names.clear();
        numbers.clear();
    }

    void end() {
        check.end();
    }

    void holds(String what, boolean is) {
        check.holds(what, is);
    }

    /** The call's answer must be the one that is due. */
    void due(long want, String name, int... p) {
        check.due(Calls.text(name, p), look(name, p), want);
    }

    private long look(String name, int... p) {
        names.add(name);
        numbers.add(p);
        check.holds("an object is used for 512 calls at most", names.size() <= CALLS_OF_AN_OBJECT);
        return Calls.ask(x, name, p);
    }

    /** The call's answer must be this one for each of these numbers in place of its parameter at. */
    void dueForEach(long want, int[] in, int at, String name, int... p) {
        for (int v : in) {
            due(want, name, with(p, at, v));
        }
    }

    /** The call is refused, or comes to a FAULT, with this answer, and changes nothing but fault(). */
    void refused(long want, String name, int... p) {
        boolean isFault = want <= NULL && want >= SIZE;
        refusedWith(isFault ? (int) (-10 - want) : 0, want, name, p);
    }

    void refusedForEach(long want, int[] in, int at, String name, int... p) {
        for (int v : in) {
            refused(want, name, with(p, at, v));
        }
    }

    /** As refused, where the answer LOST does not tell the FAULT. */
    void lost(int fault, String name, int... p) {
        refusedWith(fault, LOST, name, p);
    }

    private void refusedWith(int fault, long want, String name, int... p) {
        // sheet(0, 0, -1) comes to FAULT 4 and sheet(4, 0, 0) to none, whatever the object is: fault() differs ahead.
        int ahead = fault == 4 ? 0 : 4;
        AnyOrder twin = again(ahead);
        AnyOrder asked = again(ahead);
        String text = Calls.text(name, p);
        check.due(text, Calls.ask(asked, name, p), want);
        check.due("fault() behind " + text, asked.fault(), Calls.namesFaults(name) ? fault : ahead);
        List<String> due = State.of(twin);
        List<String> got = State.of(asked);
        check.holds("an object is used for 512 calls at most", names.size() + 3 + got.size() <= CALLS_OF_AN_OBJECT);
        // The first row is fault(), looked at above.
        for (int row = 1; row < Math.max(due.size(), got.size()); row++) {
            String dueRow = row < due.size() ? due.get(row) : "nothing";
            String gotRow = row < got.size() ? got.get(row) : "nothing";
            check.holds(text + " changes nothing, but " + gotRow + ", due is " + dueRow, dueRow.equals(gotRow));
        }
    }

    private AnyOrder again(int fault) {
        AnyOrder y = new AnyOrder();
        for (int i = 0; i < names.size(); i++) {
            Calls.ask(y, names.get(i), numbers.get(i));
        }
        Calls.ask(y, "sheet", fault == 4 ? 0 : 4, 0, fault == 4 ? -1 : 0);
        return y;
    }

    private static int[] with(int[] p, int at, int v) {
        int[] changed = p.clone();
        changed[at] = v;
        return changed;
    }

    /** A SHEET with just these cells. */
    void fill(int sheet, int lane, int... cells) {
        due(1, "sheet", sheet, lane, cells.length);
        for (int i = 0; i < cells.length; i++) {
            if (cells[i] != 0) {
                due(1, "put", sheet, i, cells[i]);
            }
        }
    }

    /** A TABLE of these entries, by way of SHEET 3, which has nothing afterwards. */
    void table(int... entries) {
        fill(3, 2, entries);
        due(look("told", 0), "table", 3, 2, 0);
        due(1, "lose", 3);
    }

    /** So many TABLES of D 2 with 1 in row 0, column 0. */
    void tables(int count) {
        fill(3, 2, 1, 0, 0, 0);
        for (int t = 0; t < count; t++) {
            due(look("told", 0), "table", 3, 2, 0);
        }
        due(1, "lose", 3);
    }

    /** A WORD of these LETTERS, by way of SHEET 3, which has nothing afterwards. */
    void word(int... letters) {
        fill(3, 2, letters);
        due(look("told", 3), "word", 3, 2, 0, letters.length);
        due(1, "lose", 3);
    }

    /** So many WORDS of the LETTER 0 alone. */
    void words(int count) {
        fill(3, 2, 0);
        for (int w = 0; w < count; w++) {
            due(look("told", 3), "word", 3, 2, 0, 1);
        }
        due(1, "lose", 3);
    }

    /** Something of each kind, so that a call that should change nothing has something to change; SHEET 3 has nothing. */
    void stock() {
        table(0, 1, 1, 0);
        table(1, 0, 0, 0);
        word(0, 1);
        word(1);
        due(1, "may", 1, 1, 0);
        due(7, "close");
        due(1, "tell", 0);
        fill(0, 0, 0, 1, 1, 0, 1, 2);
        fill(1, 1, 0, 1, 1, 0, 1, 2);
        fill(2, 2, 0, 1, 1, 0, 1, 2);
    }

    /** MAY of all TABLES: row a tells by 1 and 0 which may come behind TABLE a. */
    void mays(String... rows) {
        for (int a = 0; a < rows.length; a++) {
            for (int b = 0; b < rows.length; b++) {
                if (rows[a].charAt(b) == '0') {
                    due(1, "may", a, b, 0);
                }
            }
        }
    }

    /** A row of n cells that all hold v. */
    static int[] all(int n, int v) {
        int[] cells = new int[n];
        Arrays.fill(cells, v);
        return cells;
    }

    static int[] from(int first, int last) {
        return IntStream.rangeClosed(first, last).toArray();
    }
}
