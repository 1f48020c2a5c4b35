/** What the tests share: answers compared with what is due, and short ways to fill an object. */
final class Check {
    private int wrong;
    private int calls;
    private String part = "";

    /** Names what the following answers belong to. */
    void part(String name) {
        part = name;
    }

    void due(String call, long got, long want) {
        calls++;
        if (got != want) {
            wrong++;
            System.out.println(part + ": " + call + " answered " + got + ", due is " + want);
        }
    }

    void holds(String what, boolean is) {
        due(what, is ? 1 : 0, 1);
    }

    void end() {
        System.out.println(wrong == 0 ? calls + " answers are as due" : wrong + " answers are not as due");
        if (wrong != 0) {
            System.exit(1);
        }
    }

    /** A SHEET with just these cells. */
    void fill(AnyOrder x, int sheet, int lane, int... cells) {
        due("sheet " + sheet, x.sheet(sheet, lane, cells.length), 1);
        for (int i = 0; i < cells.length; i++) {
            due("put " + sheet + " " + i, x.put(sheet, i, cells[i]), 1);
        }
    }

    /** A TABLE of these entries, by way of SHEET 3, which has nothing afterwards. */
    int table(AnyOrder x, int... entries) {
        fill(x, 3, 2, entries);
        int number = x.table(3, 2, 0);
        holds("a table is taken", number >= 0);
        x.lose(3);
        return number;
    }

    /** A WORD of these LETTERS, by way of SHEET 3, which has nothing afterwards. */
    int word(AnyOrder x, int... letters) {
        fill(x, 3, 2, letters);
        int number = x.word(3, 2, 0, letters.length);
        holds("a word is kept", number >= 0);
        x.lose(3);
        return number;
    }
}
