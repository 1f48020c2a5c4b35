/** Promises 1 to 5 and 31: a new object, begin, table, entry, may, told. */
public final class TablesTest {
    private static final long LOST = Long.MIN_VALUE;

    public static void main(String[] args) {
        Check check = new Check();
        newObject(check);
        begin(check);
        table(check);
        tableRefusals(check);
        entry(check);
        may(check);
        told(check);
        check.end();
    }

    private static void newObject(Check check) {
        check.part("1 new object");
        AnyOrder x = new AnyOrder();
        check.due("told(0)", x.told(0), 0);
        check.due("told(1)", x.told(1), 2);
        check.due("told(2)", x.told(2), 0);
        check.due("told(3)", x.told(3), 0);
        check.due("told(4)", x.told(4), 0);
        check.due("closed(0)", x.closed(0), -3);
        check.due("entry(0, 0, 0)", x.entry(0, 0, 0), LOST);
        check.due("letter(0, 0)", x.letter(0, 0), -1);
        check.due("history()", x.history(), 0);
        check.due("fault()", x.fault(), 0);
        for (int k = 0; k < 4; k++) {
            check.due("lose", x.lose(k), 0);
        }
    }

    private static void begin(Check check) {
        check.part("2 begin");
        AnyOrder x = new AnyOrder();
        check.table(x, 0, 1, 1, 0);
        check.table(x, 1, 0, 0, 1);
        check.word(x, 0, 1);
        x.may(0, 1, false);
        x.close();
        x.tell(0);
        int history = x.history();
        check.fill(x, 1, 1, 7, 300);
        int[][] refused = {{1, 0}, {4, 0}, {2, 1}, {2, -1}, {3, 98}, {-2, 5}, {2, Integer.MIN_VALUE}, {Integer.MAX_VALUE, 0}};
        for (int[] dm : refused) {
            check.due("begin(" + dm[0] + ", " + dm[1] + ")", x.begin(dm[0], dm[1]), -2);
        }
        check.due("refusals leave TABLES", x.told(0), 2);
        check.due("refusals leave WORDS", x.told(3), 1);
        check.due("refusals leave the CLOSURE", x.closed(0), 2);
        check.due("begin(3, 97)", x.begin(3, 97), 1);
        check.due("told(0)", x.told(0), 0);
        check.due("told(1)", x.told(1), 3);
        check.due("told(2)", x.told(2), 97);
        check.due("told(3)", x.told(3), 0);
        check.due("told(4)", x.told(4), 0);
        check.due("closed(0)", x.closed(0), -3);
        check.due("times(0, 0)", x.times(0, 0), -1);
        check.due("length(1, 0)", x.length(1, 0), 0);
        check.due("SHEETS stay", x.at(1, 1, 1), 300);
        check.due("HISTORY stays", x.history(), history);
        check.due("begin(2, 2)", x.begin(2, 2), 1);
        check.table(x, 0, 1, 1, 0);
        check.table(x, 1, 0, 0, 1);
        check.due("all may again", x.told(4), 4);
        check.due("begin(2, 0)", x.begin(2, 0), 1);
        check.due("told(2)", x.told(2), 0);
    }

    private static void table(Check check) {
        check.part("3 table");
        AnyOrder x = new AnyOrder();
        check.fill(x, 0, 0, 5, -9, 9, 0, 1);
        check.fill(x, 1, 1, 5, -9, 9, 0, 1);
        check.fill(x, 2, 2, 5, -9, 9, 0, 1);
        check.due("table(0, 0, 0)", x.table(0, 0, 0), 0);
        check.due("table(1, 1, 1)", x.table(1, 1, 1), 1);
        check.due("table(2, 2, 1)", x.table(2, 2, 1), 2);
        check.due("told(0)", x.told(0), 3);
        check.due("entry(0, 0, 0)", x.entry(0, 0, 0), 5);
        check.due("entry(0, 0, 1)", x.entry(0, 0, 1), -9);
        check.due("entry(0, 1, 0)", x.entry(0, 1, 0), 9);
        check.due("entry(0, 1, 1)", x.entry(0, 1, 1), 0);
        check.due("entry(1, 0, 0)", x.entry(1, 0, 0), -9);
        check.due("entry(2, 1, 1)", x.entry(2, 1, 1), 1);
        x.put(0, 0, 3);
        check.due("a TABLE keeps its own entries", x.entry(0, 0, 0), 5);
        x.begin(3, 0);
        check.fill(x, 0, 0, 99, 1, 2, 3, 4, 5, 6, 7, 8, 9);
        check.due("table(0, 0, 1)", x.table(0, 0, 1), 0);
        check.due("entry(0, 2, 0)", x.entry(0, 2, 0), 7);
        check.due("table(0, 0, 2)", x.table(0, 0, 2), -13);

        AnyOrder y = new AnyOrder();
        check.table(y, 1, 0, 0, 1);
        check.due("close()", y.close(), 1);
        y.table(0, 0, 0);
        check.due("a fault leaves the CLOSURE", y.closed(0), 1);
        check.fill(y, 0, 0, 10, 0, 0, 0);
        check.due("table(0, 0, 0)", y.table(0, 0, 0), -2);
        check.due("a refusal leaves the CLOSURE", y.closed(0), 1);
        check.table(y, 1, 0, 0, 1);
        check.due("no CLOSURE behind a TABLE", y.closed(0), -3);
        check.due("close() again", y.close(), 1);
    }

    private static void tableRefusals(Check check) {
        check.part("3 table, refused");
        AnyOrder x = new AnyOrder();
        check.fill(x, 0, 0, 1, 2, 3, 4, 10, -10, 0);
        faulty(check, x, 4, 0, 0, -1, 0);
        faulty(check, x, -1, 7, 0, -1, 0);
        faulty(check, x, 0, 3, 0, -2, 0);
        faulty(check, x, 0, -1, 99, -2, 0);
        faulty(check, x, 1, 3, 0, -2, 0);
        faulty(check, x, 0, 1, 99, -12, 2);
        faulty(check, x, 1, 1, 99, -11, 1);
        faulty(check, x, 0, 0, 4, -13, 3);
        faulty(check, x, 0, 0, -1, -13, 3);
        faulty(check, x, 0, 0, Integer.MAX_VALUE, -13, 3);
        faulty(check, x, 0, 0, Integer.MIN_VALUE, -13, 3);
        faulty(check, x, 0, 0, 1, -2, 0);
        faulty(check, x, 0, 0, 3, -2, 0);
        check.due("told(0)", x.told(0), 0);
        for (int t = 0; t < 6; t++) {
            faulty(check, x, 0, 0, 0, t, 0);
        }
        faulty(check, x, 0, 0, 3, -2, 0);
        faulty(check, x, 0, 0, 4, -13, 3);
        faulty(check, x, 0, 0, 0, -4, 0);
        check.due("told(0)", x.told(0), 6);
        check.due("told(4)", x.told(4), 36);
    }

    private static void faulty(Check check, AnyOrder x, int sheet, int lane, int i, int want, int fault) {
        String call = "table(" + sheet + ", " + lane + ", " + i + ")";
        check.due(call, x.table(sheet, lane, i), want);
        check.due("fault() behind " + call, x.fault(), fault);
    }

    private static void entry(Check check) {
        check.part("4 entry");
        AnyOrder x = new AnyOrder();
        x.begin(2, 5);
        check.table(x, -3, 7, 6, -9);
        check.due("entries are without M", x.entry(0, 0, 0), -3);
        check.due("entry(0, 0, 1)", x.entry(0, 0, 1), 7);
        check.due("entry(0, 1, 0)", x.entry(0, 1, 0), 6);
        check.due("entry(0, 1, 1)", x.entry(0, 1, 1), -9);
        int[][] unknown = {{1, 0, 0}, {-1, 0, 0}, {0, 2, 0}, {0, -1, 0}, {0, 0, 2}, {0, 0, -1}, {0, Integer.MAX_VALUE, 0}};
        for (int[] place : unknown) {
            check.due("entry of no place", x.entry(place[0], place[1], place[2]), LOST);
        }
        x.begin(3, 0);
        check.table(x, 1, 2, 3, 4, 5, 6, 7, 8, 9);
        check.due("entry(0, 2, 2)", x.entry(0, 2, 2), 9);
        check.due("entry(0, 3, 2)", x.entry(0, 3, 2), LOST);
    }

    private static void may(Check check) {
        check.part("5 may");
        AnyOrder x = new AnyOrder();
        check.due("may(0, 0, true)", x.may(0, 0, true), -1);
        check.table(x, 1, 0, 0, 1);
        check.table(x, 1, 1, 0, 1);
        check.due("it was so", x.may(0, 1, true), 0);
        check.due("may(0, 1, false)", x.may(0, 1, false), 1);
        check.due("may(0, 1, false) again", x.may(0, 1, false), 0);
        check.due("told(4)", x.told(4), 3);
        check.due("length(2, 0)", x.length(2, 0), 3);
        check.word(x, 0, 1);
        check.word(x, 1, 0);
        check.due("1 may not come behind 0", x.about(0, 1), 0);
        check.due("0 may come behind 1", x.about(1, 1), 1);
        check.due("may(2, 0, false)", x.may(2, 0, false), -1);
        check.due("may(0, 2, false)", x.may(0, 2, false), -1);
        check.due("may(-1, 0, false)", x.may(-1, 0, false), -1);
        check.due("may(0, -1, true)", x.may(0, -1, true), -1);
        check.due("may(0, 1, true)", x.may(0, 1, true), 1);
        check.due("told(4)", x.told(4), 4);
        check.due("length(2, 0)", x.length(2, 0), 4);
        x.may(0, 0, false);
        check.table(x, 0, 0, 0, 0);
        check.due("a new TABLE may with all", x.told(4), 8);

        AnyOrder y = new AnyOrder();
        check.table(y, 0, 1, 1, 0);
        check.due("close()", y.close(), 2);
        check.due("may(0, 0, false)", y.may(0, 0, false), 1);
        check.due("may leaves the CLOSURE", y.closed(0), 2);
    }

    private static void told(Check check) {
        check.part("31 told");
        AnyOrder x = new AnyOrder();
        x.begin(3, 11);
        check.table(x, 1, 0, 0, 0, 1, 0, 0, 0, 1);
        check.table(x, 1, 0, 0, 0, 1, 0, 0, 0, 0);
        check.word(x, 0);
        check.word(x, 1, 1);
        check.word(x, 1);
        x.may(1, 1, false);
        int[] want = {2, 3, 11, 3, 3};
        for (int what = 0; what < 5; what++) {
            check.due("told(" + what + ")", x.told(what), want[what]);
        }
        check.due("told(-1)", x.told(-1), -2);
        check.due("told(5)", x.told(5), -2);
        check.due("told(least)", x.told(Integer.MIN_VALUE), -2);
    }
}
