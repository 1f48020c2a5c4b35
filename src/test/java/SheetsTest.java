/** Promises 22 to 30: sheet, lose, put, at, tell, weigh, as, history, fault. */
public final class SheetsTest {
    private static final long LOST = Long.MIN_VALUE;

    public static void main(String[] args) {
        Check check = new Check();
        sheet(check);
        lose(check);
        put(check);
        at(check);
        tell(check);
        weigh(check);
        as(check);
        history(check);
        fault(check);
        check.end();
    }

    private static void answer(Check check, AnyOrder x, String call, long got, long want, int fault) {
        check.due(call, got, want);
        check.due("fault() behind " + call, x.fault(), fault);
    }

    private static void sheet(Check check) {
        check.part("22 sheet");
        AnyOrder x = new AnyOrder();
        answer(check, x, "sheet(0, 0, 40)", x.sheet(0, 0, 40), 1, 0);
        answer(check, x, "sheet(3, 2, 0)", x.sheet(3, 2, 0), 1, 0);
        check.due("put(0, 39, 5)", x.put(0, 39, 5), 1);
        check.due("put(3, 0, 5)", x.put(3, 0, 5), -13);
        answer(check, x, "sheet(4, 3, -1)", x.sheet(4, 3, -1), -1, 0);
        answer(check, x, "sheet(-1, 0, 1)", x.sheet(-1, 0, 1), -1, 0);
        answer(check, x, "sheet(0, 3, -1)", x.sheet(0, 3, -1), -2, 0);
        answer(check, x, "sheet(0, -1, 1)", x.sheet(0, -1, 1), -2, 0);
        answer(check, x, "sheet(0, 0, 41)", x.sheet(0, 0, 41), -2, 0);
        answer(check, x, "sheet(0, 0, -1)", x.sheet(0, 0, -1), -14, 4);
        answer(check, x, "sheet(0, 0, least)", x.sheet(0, 0, Integer.MIN_VALUE), -14, 4);
        check.due("refusals leave the row", x.at(0, 39, 0), 5);
        check.due("sheet(0, 0, 40), new", x.sheet(0, 0, 40), 1);
        check.due("a new row is of 0", x.at(0, 39, 0), 0);
        check.due("sheet(0, 2, 3)", x.sheet(0, 2, 3), 1);
        check.due("at(0, 2, 2)", x.at(0, 2, 2), 0);
        check.due("at(0, 3, 2)", x.at(0, 3, 2), LOST);
    }

    private static void lose(Check check) {
        check.part("23 lose");
        AnyOrder x = new AnyOrder();
        check.due("lose(1)", x.lose(1), 0);
        x.sheet(1, 0, 0);
        check.due("lose(1) of no cells", x.lose(1), 1);
        check.due("lose(1)", x.lose(1), 0);
        x.sheet(1, 1, 9);
        x.sheet(2, 1, 9);
        check.due("lose(1)", x.lose(1), 1);
        check.due("put(1, 0, 1)", x.put(1, 0, 1), -11);
        check.due("put(2, 0, 1)", x.put(2, 0, 1), 1);
        check.due("lose(4)", x.lose(4), -1);
        check.due("lose(-1)", x.lose(-1), -1);
    }

    private static void put(Check check) {
        check.part("24 put");
        AnyOrder x = new AnyOrder();
        int[] values = {0, -1, 127, 128, -128, -129, 255, 256, 32767, 32768, -32769, 65536, 70000,
            Integer.MAX_VALUE, Integer.MIN_VALUE};
        for (int lane = 0; lane < 3; lane++) {
            x.sheet(lane, lane, 15);
            for (int i = 0; i < values.length; i++) {
                int v = values[i];
                long cut = lane == 0 ? (byte) v : lane == 1 ? (short) v : v;
                answer(check, x, "put(" + lane + ", " + i + ", " + v + ")", x.put(lane, i, v), 1, 0);
                check.due("at(" + lane + ", " + i + ", " + lane + ")", x.at(lane, i, lane), cut);
            }
        }
        answer(check, x, "put(0, 15, 1)", x.put(0, 15, 1), -13, 3);
        answer(check, x, "put(0, -1, 1)", x.put(0, -1, 1), -13, 3);
        answer(check, x, "put(3, -1, 1)", x.put(3, -1, 1), -11, 1);
        answer(check, x, "put(4, -1, 1)", x.put(4, -1, 1), -1, 0);
        answer(check, x, "put(-1, 0, 1)", x.put(-1, 0, 1), -1, 0);
        answer(check, x, "put(2, least, 1)", x.put(2, Integer.MIN_VALUE, 1), -13, 3);
    }

    private static void at(Check check) {
        check.part("25 at");
        AnyOrder x = new AnyOrder();
        check.fill(x, 0, 1, 3, -4, 5);
        answer(check, x, "at(0, 1, 1)", x.at(0, 1, 1), -4, 0);
        answer(check, x, "at(4, 9, 9)", x.at(4, 9, 9), LOST, 0);
        answer(check, x, "at(0, 9, 3)", x.at(0, 9, 3), LOST, 0);
        answer(check, x, "at(1, 0, -1)", x.at(1, 0, -1), LOST, 0);
        answer(check, x, "at(0, 9, 0)", x.at(0, 9, 0), LOST, 2);
        answer(check, x, "at(0, 1, 2)", x.at(0, 1, 2), LOST, 2);
        answer(check, x, "at(1, 9, 0)", x.at(1, 9, 0), LOST, 1);
        answer(check, x, "at(0, 3, 1)", x.at(0, 3, 1), LOST, 3);
        answer(check, x, "at(0, -1, 1)", x.at(0, -1, 1), LOST, 3);
        answer(check, x, "at(0, 2, 1)", x.at(0, 2, 1), 5, 0);
    }

    /** TABLE 0 any, 1 EVEN, 2 SHUFFLE, 3 EVEN, 4 any, 5 SHUFFLE. */
    private static AnyOrder kinds(Check check) {
        AnyOrder x = new AnyOrder();
        check.table(x, 5, -1, 0, -2);
        check.table(x, 2, 7, 0, 3);
        check.table(x, 0, 1, 1, 0);
        check.table(x, 1, 1, 0, 0);
        check.table(x, 2, -1, -1, 2);
        check.table(x, 1, 0, 0, 1);
        return x;
    }

    private static void tell(Check check) {
        check.part("26 tell");
        AnyOrder x = kinds(check);
        int[] want = {3, 5 + 7, 0 + 1 + 0, 1 + 1, 4, 2 + 1 + 2};
        for (int t = 0; t < 6; t++) {
            check.due("tell(" + t + ")", x.tell(t), want[t]);
        }
        int history = x.history();
        check.due("tell(6)", x.tell(6), -1);
        check.due("tell(-1)", x.tell(-1), -1);
        check.due("a refusal leaves HISTORY", x.history(), history);
        AnyOrder y = new AnyOrder();
        y.begin(3, 2);
        check.table(y, 9, 0, 0, 0, 9, 0, 0, 0, 9);
        check.table(y, 0, 1, 0, 0, 0, 1, 1, 0, 0);
        check.table(y, 1, 0, 0, 1, 0, 0, 0, 1, 0);
        check.table(y, 2, 0, 0, -1, 0, 0, 0, 1, -9);
        check.due("without M", y.tell(0), 36);
        check.due("tell(1)", y.tell(1), 1);
        check.due("tell(2)", y.tell(2), 2);
        check.due("tell(3)", y.tell(3), -7);
        y.begin(2, 0);
        check.table(y, 0, 0, 0, 0);
        check.table(y, 7, 1, 1, 1);
        check.table(y, -1, 2, 2, 1);
        check.due("the greatest entry is 0", y.tell(0), 0);
        check.due("the greatest entry is the first", y.tell(1), 15);
        check.due("the first entry is below 0", y.tell(2), 0);
    }

    private static void weigh(Check check) {
        check.part("27 weigh");
        AnyOrder x = kinds(check);
        int[] want = {0, 1, 60, 3, 4, 60};
        for (int t = 0; t < 6; t++) {
            check.due("weigh(" + t + ")", x.weigh(t), want[t]);
        }
        int history = x.history();
        check.due("weigh(6)", x.weigh(6), -1);
        check.due("weigh(-1)", x.weigh(-1), -1);
        check.due("a refusal leaves HISTORY", x.history(), history);
    }

    private static void as(Check check) {
        check.part("28 as");
        AnyOrder x = kinds(check);
        int[] kinds = {0, 1, 2, 1, 0, 2};
        for (int t = 0; t < 6; t++) {
            for (int kind = 0; kind < 3; kind++) {
                boolean is = kind <= kinds[t];
                answer(check, x, "as(" + t + ", " + kind + ")", x.as(t, kind), is ? 1 : -12, is ? 0 : 2);
            }
        }
        x.as(0, 2);
        answer(check, x, "as(0, 3)", x.as(0, 3), -2, 0);
        x.as(0, 2);
        answer(check, x, "as(0, -1)", x.as(0, -1), -2, 0);
        x.as(0, 2);
        answer(check, x, "as(6, 3)", x.as(6, 3), -1, 0);
        answer(check, x, "as(-1, 0)", x.as(-1, 0), -1, 0);
        check.due("as leaves HISTORY", x.history(), 0);
        AnyOrder y = new AnyOrder();
        y.begin(2, 3);
        check.table(y, 3, -2, -2, 3);
        check.due("kinds are without M", y.as(0, 1), -12);
        check.table(y, 0, 2, 2, 0);
        check.due("2 is no 1", y.as(1, 2), -12);
        check.table(y, 1, 1, 0, 0);
        check.due("two in a row", y.as(2, 2), -12);
        check.table(y, 1, 0, 1, 0);
        check.due("two in a column", y.as(3, 2), -12);
        check.table(y, 2, -1, -1, 2);
        check.due("sums of 1 with one below 0", y.as(4, 2), -12);
        check.table(y, 2, 0, 0, 1);
        check.due("the first row alone is none", y.as(5, 2), -12);
        y.begin(2, 0);
        check.table(y, -1, 0, 0, 1);
        check.due("the first entry is below 0", y.as(0, 1), -12);
        check.table(y, 1, 0, 0, 2);
        check.due("the last row alone is none", y.as(1, 2), -12);
        check.table(y, 0, 0, 0, 0);
        check.due("all 0 is EVEN", y.as(2, 1), 1);
        check.due("all 0 is no SHUFFLE", y.as(2, 2), -12);
    }

    private static void history(Check check) {
        check.part("29 history");
        AnyOrder x = kinds(check);
        int[][] left = {{1}, {2, 1}, {3, 2, 1, 1}, {2, 1}, {1}, {3, 2, 1, 1}};
        int[] weighed = {4, 4, 5, 4, 4, 5};
        int due = 0;
        check.due("history() at first", x.history(), due);
        for (int times = 0; times < 3; times++) {
            for (int t = 0; t < 6; t++) {
                x.tell(t);
                for (int number : left[t]) {
                    due = 31 * due + number;
                }
                check.due("history() behind tell(" + t + ")", x.history(), due);
                x.weigh(t);
                due = 31 * due + weighed[t];
                check.due("history() behind weigh(" + t + ")", x.history(), due);
            }
        }
        x.begin(3, 0);
        check.due("history() begun anew", x.history(), due);
    }

    private static void fault(Check check) {
        check.part("30 fault");
        AnyOrder x = kinds(check);
        check.due("fault() behind calls that came to none", x.fault(), 0);
        x.put(0, 0, 0);
        check.due("fault()", x.fault(), 1);
        x.told(0);
        x.tell(0);
        x.weigh(9);
        x.length(9, 9);
        x.may(9, 9, true);
        x.lose(9);
        x.join(0, 0);
        x.letter(0, 0);
        x.closed(9);
        x.close();
        x.history();
        check.due("fault() stays behind calls that name none", x.fault(), 1);
        check.due("fault() stays behind fault()", x.fault(), 1);
        x.put(9, 0, 0);
        check.due("fault() behind a refusal", x.fault(), 0);
        x.put(0, 0, 0);
        x.sheet(0, 0, 4);
        check.due("fault() behind one that came to none", x.fault(), 0);
        x.sheet(0, 0, -1);
        check.due("fault()", x.fault(), 4);
        x.at(0, 4, 0);
        check.due("fault()", x.fault(), 3);
        x.word(0, 1, 0, 1);
        check.due("fault()", x.fault(), 2);
        x.table(0, 0, 0);
        check.due("fault() behind FULL", x.fault(), 0);
    }
}
