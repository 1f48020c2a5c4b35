import java.util.Random;

/** Runs of 512 calls drawn from fixed seeds: AnyOrder and PlainOrder must answer alike. */
public final class AgainstPlainTest {
    private static final int CALLS_OF_AN_OBJECT = 512;
    private static final int[] EDGES = {-1, 99, 2000, Integer.MAX_VALUE, Integer.MIN_VALUE};
    private static final String[] CALLS = {
        "table", "table", "entry", "may", "may", "may", "length", "length", "length",
        "extreme", "extreme", "rings", "ringTrack", "ring", "ring", "growth", "growth", "close", "closed", "closed",
        "product", "product", "times", "times", "word", "word", "join", "join", "letter", "letter", "about", "about",
        "about", "entryOf", "entryOf", "size", "size", "sheet", "lose", "put", "put", "at", "at", "tell", "weigh",
        "as", "history", "fault", "fault", "fault", "told", "told"
    };

    private final Check check = new Check();
    private final Random random;
    private final AnyOrder real = new AnyOrder();
    private final PlainOrder plain = new PlainOrder();
    private final int spread;
    private final int longest;
    private int calls;
    private boolean differed;

    private AgainstPlainTest(long seed) {
        random = new Random(seed);
        spread = new int[] {1, 1, 2, 9}[random.nextInt(4)];
        longest = seed % 20 == 0 ? 8 : 5;
        check.part("seed " + seed);
    }

    public static void main(String[] args) {
        int runs = args.length > 0 ? Integer.parseInt(args[0]) : 150;
        int from = args.length > 1 ? Integer.parseInt(args[1]) : 0;
        boolean wrong = false;
        for (int seed = from; seed < from + runs; seed++) {
            AgainstPlainTest run = new AgainstPlainTest(seed);
            run.go();
            wrong |= run.differed;
        }
        System.out.println(wrong ? "answers differ" : runs + " runs are answered alike");
        if (wrong) {
            System.exit(1);
        }
    }

    private void go() {
        if (random.nextInt(3) > 0) {
            begin();
        }
        stock();
        while (calls < CALLS_OF_AN_OBJECT && !differed) {
            if (random.nextInt(120) == 0) {
                begin();
                stock();
            } else {
                randomCall(CALLS[random.nextInt(CALLS.length)]);
            }
        }
    }

    /** Some TABLES and WORDS, so that the calls that follow have something to ask about. */
    private void stock() {
        int tables = random.nextInt(5);
        for (int t = 0; t < tables; t++) {
            randomTable();
        }
        int words = random.nextInt(4);
        for (int w = 0; w < words; w++) {
            randomWord();
        }
    }

    private void begin() {
        int[] moduli = {0, 0, 0, 2, 3, 5, 7, 97, 1, 98, -1};
        compare("begin", 2 + random.nextInt(2) + (random.nextInt(30) == 0 ? 2 : 0), moduli[random.nextInt(moduli.length)]);
    }

    /** Mostly a number below the bound, at times one at or beyond an edge. */
    private int below(int bound) {
        int draw = random.nextInt(40);
        return draw == 0 ? EDGES[random.nextInt(EDGES.length)] : draw == 1 ? bound : random.nextInt(bound);
    }

    private int length() {
        return random.nextInt(25) == 0 ? below(10) : 1 + random.nextInt(longest);
    }

    private void fill(int sheet, int lane, int n, int least, int greatest) {
        compare("sheet", sheet, lane, n);
        for (int i = 0; i < n; i++) {
            compare("put", sheet, i, least + random.nextInt(greatest - least + 1));
        }
    }

    private void randomCall(String name) {
        switch (name) {
            case "table": randomTable(); break;
            case "word": randomWord(); break;
            case "sheet": compare(name, below(4), below(3), random.nextInt(6) == 0 ? below(42) - 1 : 12); break;
            case "put": compare(name, below(4), below(14), random.nextInt(3) == 0 ? random.nextInt() : below(3)); break;
            case "at": compare(name, below(4), below(14), below(3)); break;
            case "lose": if (random.nextInt(4) == 0) compare(name, below(4)); break;
            case "entry": case "entryOf": compare(name, below(6), below(3), below(3)); break;
            case "may": compare(name, below(6), below(6), random.nextInt(2)); break;
            case "length": compare(name, length(), below(4)); break;
            case "extreme": compare(name, length(), below(2), below(longest)); break;
            case "rings": case "ringTrack": compare(name, length()); break;
            case "ring": compare(name, length(), below(longest)); break;
            case "growth": compare(name, 1 + below(9), 1 + below(9), length()); break;
            case "close": close(); break;
            case "closed": case "told": compare(name, below(5)); break;
            case "product": compare(name, below(random.nextInt(2) == 0 ? 6 : 600), below(3), below(3)); break;
            case "times": compare(name, below(random.nextInt(2) == 0 ? 6 : 600), below(12)); break;
            case "join": compare(name, below(5), below(5)); break;
            case "letter": compare(name, below(5), below(8)); break;
            case "about": compare(name, below(6), below(4)); break;
            case "size": compare(name, below(6), below(2)); break;
            case "tell": case "weigh": compare(name, below(6)); break;
            case "as": compare(name, below(6), below(3)); break;
            default: compare(name); break;
        }
    }

    private void close() {
        compare("close");
        for (int what = 0; what < 5; what++) {
            compare("closed", what);
        }
        int count = (int) Math.max(1, plain.call("closed", 0));
        for (int i = 0; i < 6; i++) {
            compare("times", below(count), below(count));
            compare("product", below(count), below(3), below(3));
        }
    }

    private void randomTable() {
        int sheet = random.nextInt(4);
        int lane = random.nextInt(3);
        if (random.nextInt(3) > 0) {
            fill(sheet, lane, 9, random.nextInt(2) == 0 ? 0 : -spread, random.nextInt(20) == 0 ? 10 : spread);
            if (random.nextInt(3) == 0) {
                for (int i = 0; i < 9; i++) {
                    compare("put", sheet, i, i % 4 == 0 ? 1 : 0);
                }
            }
        }
        boolean other = random.nextInt(12) == 0;
        compare("table", other ? below(4) : sheet, other ? below(3) : lane, random.nextInt(4) == 0 ? below(7) : 0);
    }

    private void randomWord() {
        int sheet = random.nextInt(4);
        int lane = random.nextInt(3);
        if (random.nextInt(3) > 0) {
            fill(sheet, lane, 1 + random.nextInt(13), random.nextInt(15) == 0 ? -1 : 0, random.nextInt(4));
        }
        boolean other = random.nextInt(12) == 0;
        compare("word", other ? below(4) : sheet, other ? below(3) : lane, random.nextInt(3) == 0 ? below(5) : 0,
            random.nextInt(8) == 0 ? below(15) : 1 + random.nextInt(6));
    }

    private void compare(String name, int... p) {
        if (differed || calls >= CALLS_OF_AN_OBJECT) {
            return;
        }
        calls++;
        long want = plain.call(name, p);
        long got = Calls.ask(real, name, p);
        differed = got != want;
        check.due("call " + calls + ": " + Calls.text(name, p), got, want);
    }
}
