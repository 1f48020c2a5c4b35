/** Promises 12 to 15: close, closed, product, times. */
public final class ClosureTest {
    private static final long LOST = Long.MIN_VALUE;

    public static void main(String[] args) {
        Check check = new Check();
        shuffle(check);
        units(check);
        nought(check);
        orderOfCalls(check);
        withModulus(check);
        limits(check);
        spent(check);
        check.end();
    }

    private static void closed(Check check, AnyOrder x, int... want) {
        for (int what = 0; what < 5; what++) {
            check.due("closed(" + what + ")", x.closed(what), want[what]);
        }
    }

    private static void noClosure(Check check, AnyOrder x) {
        for (int what = 0; what < 5; what++) {
            check.due("closed(" + what + ")", x.closed(what), -3);
        }
        check.due("closed(5)", x.closed(5), -2);
        check.due("closed(-1)", x.closed(-1), -2);
        check.due("product(0, 0, 0)", x.product(0, 0, 0), LOST);
        check.due("times(0, 0)", x.times(0, 0), -1);
    }

    private static void shuffle(Check check) {
        check.part("12 close, of one SHUFFLE");
        AnyOrder x = new AnyOrder();
        check.due("close() without TABLES", x.close(), -3);
        noClosure(check, x);
        check.table(x, 0, 1, 1, 0);
        noClosure(check, x);
        check.due("close()", x.close(), 2);
        check.due("close() again", x.close(), 2);
        closed(check, x, 2, 0, 1, 1, 2);
        check.due("times(0, 0)", x.times(0, 0), 1);
        check.due("times(0, 1)", x.times(0, 1), 0);
        check.due("times(1, 1)", x.times(1, 1), 1);
        int[][] unknown = {{2, 0}, {0, 2}, {-1, 0}, {0, -1}, {Integer.MAX_VALUE, 0}, {0, Integer.MIN_VALUE}};
        for (int[] call : unknown) {
            check.due("times of no product", x.times(call[0], call[1]), -1);
        }
        check.due("product(0, 0, 1)", x.product(0, 0, 1), 1);
        check.due("product(1, 0, 1)", x.product(1, 0, 1), 0);
        check.due("product(1, 1, 1)", x.product(1, 1, 1), 1);
        int[][] lost = {{2, 0, 0}, {-1, 0, 0}, {0, 2, 0}, {0, -1, 0}, {0, 0, 2}, {0, 0, -1}};
        for (int[] call : lost) {
            check.due("product of no place", x.product(call[0], call[1], call[2]), LOST);
        }
        check.due("closed(5)", x.closed(5), -2);
        check.due("closed(-1)", x.closed(-1), -2);
    }

    private static void units(Check check) {
        check.part("12 close, of two single ones");
        AnyOrder x = new AnyOrder();
        check.table(x, 0, 1, 0, 0);
        check.table(x, 0, 0, 1, 0);
        check.table(x, 0, 0, 1, 0);
        x.may(0, 1, false);
        check.due("close(), ALLOWED or not, each once", x.close(), 5);
        closed(check, x, 5, 1, -9, 3, 2);
        check.due("product 2 is nought", x.product(2, 0, 0) + x.product(2, 1, 1), 0);
        check.due("product 3 is 0 times TABLE 1", x.product(3, 0, 0), 1);
        check.due("product 4 is 1 times TABLE 0", x.product(4, 1, 1), 1);
        check.due("times(0, 4)", x.times(0, 4), 0);
        check.due("times(4, 0)", x.times(4, 0), 2);
        check.due("times(3, 0)", x.times(3, 0), 0);
    }

    private static void nought(Check check) {
        check.part("12 close, of noughts");
        AnyOrder x = new AnyOrder();
        check.table(x, 0, 1, 0, 0);
        check.due("close()", x.close(), 2);
        closed(check, x, 2, 1, -9, 1, 2);
        x.begin(3, 0);
        for (int t = 0; t < 6; t++) {
            check.table(x, 0, 0, 0, 0, 0, 0, 0, 0, 0);
        }
        check.due("close() of six that are one", x.close(), 1);
        closed(check, x, 1, 1, -9, 1, 1);
    }

    private static void orderOfCalls(Check check) {
        check.part("12 close, afterwards");
        AnyOrder x = new AnyOrder();
        check.table(x, 1, 0, 0, 1);
        check.due("close()", x.close(), 1);
        closed(check, x, 1, 0, 0, 1, 1);
        check.table(x, -1, 0, 0, 1);
        noClosure(check, x);
        check.due("close()", x.close(), 2);
        closed(check, x, 2, 0, 0, 1, 1);
        x.begin(2, 0);
        noClosure(check, x);
        check.due("close()", x.close(), -3);
    }

    private static void withModulus(Check check) {
        check.part("12 close, with M");
        AnyOrder x = new AnyOrder();
        x.begin(2, 3);
        check.table(x, -1, 0, 0, -4);
        check.due("close()", x.close(), 2);
        check.due("product(0, 0, 0)", x.product(0, 0, 0), 2);
        check.due("product(0, 1, 1)", x.product(0, 1, 1), 2);
        closed(check, x, 2, 0, 1, 1, 2);
        x.begin(2, 2);
        check.table(x, 1, 1, 0, 1);
        check.table(x, 1, 0, 1, 1);
        check.due("close() of all that can be undone", x.close(), 6);
        x.begin(2, 0);
        check.table(x, 9, 9, 0, 0);
        check.due("close() without M", x.close(), -6);
        x.begin(2, 9);
        check.table(x, 9, 9, 0, 0);
        check.due("close() where all rests are 0", x.close(), 1);
        closed(check, x, 1, 1, -9, 1, 1);
    }

    private static void limits(Check check) {
        check.part("12 close, as many as there may be");
        AnyOrder x = new AnyOrder();
        x.begin(3, 41);
        check.table(x, 6, 0, 0, 0, 1, 0, 0, 0, 1);
        check.table(x, 1, 0, 0, 0, 4, 0, 0, 0, 1);
        check.table(x, 1, 0, 0, 0, 1, 0, 0, 0, -4);
        check.due("close()", x.close(), 2000);
        check.due("closed(1)", x.closed(1), 0);
        check.due("closed(3)", x.closed(3), 1);
        check.due("closed(4)", x.closed(4), 39 + 9 + 4);
        check.due("times by the one that changes nothing", x.times(1999, x.closed(2)), 1999);
        check.due("product(2000, 0, 0)", x.product(2000, 0, 0), LOST);
        check.due("times(2000, 0)", x.times(2000, 0), -1);
        check.table(x, 0, 0, 0, 0, 0, 0, 0, 0, 0);
        check.due("close() of one more", x.close(), -6);
        noClosure(check, x);
        check.due("close() again", x.close(), -6);
        noClosure(check, x);
        x.begin(2, 0);
        check.table(x, 0, 1, 1, 0);
        check.due("close() of few again", x.close(), 2);
        closed(check, x, 2, 0, 1, 1, 2);
    }

    private static void spent(Check check) {
        check.part("12 close, spent");
        int[][] endless = {{1, 1, 0, 1}, {1, -1, 0, 1}, {-9, 0, 0, 0}, {2, 0, 0, 0}, {9, 9, 9, 9}};
        for (int[] entries : endless) {
            AnyOrder x = new AnyOrder();
            check.table(x, entries);
            check.due("close()", x.close(), -6);
            noClosure(check, x);
        }
    }
}
