import java.util.ArrayList;
import java.util.List;

/** All that the face tells of an object, fault() and MAY included; reading it spends the object. */
final class State {
    private static final int[] CELLS = {0, 1, 2, 3, 4, 5, 6, 7, 8, 9, 10, 11, 12, 13, 39, 40};

    private final AnyOrder x;
    private final List<String> told = new ArrayList<>();

    private State(AnyOrder x) {
        this.x = x;
    }

    static List<String> of(AnyOrder x) {
        State state = new State(x);
        state.read();
        return state.told;
    }

    private long ask(String name, int... p) {
        long answer = Calls.ask(x, name, p);
        told.add(Calls.text(name, p) + " is " + answer);
        return answer;
    }

    private void read() {
        ask("fault");
        ask("history");
        int tables = (int) ask("told", 0);
        int d = (int) ask("told", 1);
        ask("told", 2);
        int words = (int) ask("told", 3);
        ask("told", 4);
        readClosure(d);
        for (int t = 0; t < tables; t++) {
            readPlaces("entry", t, d);
        }
        for (int w = 0; w < words; w++) {
            readWord(w);
        }
        for (int n = 1; n <= 3; n++) {
            readLength(n);
        }
        for (int k = 0; k < 4; k++) {
            readSheet(k);
        }
        // Last, since it makes all pairs MAY.
        for (int pair = 0; pair < tables * tables; pair++) {
            ask("may", pair / tables, pair % tables, 1);
        }
    }

    private void readPlaces(String name, int number, int d) {
        for (int cell = 0; cell < d * d; cell++) {
            ask(name, number, cell / d, cell % d);
        }
    }

    private void readClosure(int d) {
        int count = (int) ask("closed", 0);
        for (int what = 1; what < 5; what++) {
            ask("closed", what);
        }
        if (count > 0) {
            readPlaces("product", 0, d);
            readPlaces("product", count - 1, d);
        }
        ask("times", 0, 0);
    }

    private void readWord(int w) {
        int letters = (int) ask("about", w, 0);
        ask("about", w, 1);
        ask("about", w, 2);
        for (int i = 0; i < letters; i++) {
            ask("letter", w, i);
        }
        ask("size", w, 0);
        ask("size", w, 1);
    }

    private void readLength(int n) {
        for (int what = 0; what < 4; what++) {
            ask("length", n, what);
        }
        ask("extreme", n, 0, n - 1);
        ask("extreme", n, 1, n - 1);
        ask("rings", n);
        ask("ringTrack", n);
        ask("ring", n, n - 1);
    }

    private void readSheet(int k) {
        for (int lane = 0; lane < 3; lane++) {
            ask("at", k, 0, lane);
            // No FAULT, or INDEX alone: the row is of this LANE.
            if (ask("fault") % 3 == 0) {
                readCells(k, lane);
            }
        }
    }

    private void readCells(int k, int lane) {
        for (int i : CELLS) {
            ask("at", k, i, lane);
        }
    }
}
