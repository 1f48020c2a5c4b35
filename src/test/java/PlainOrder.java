import java.math.BigInteger;
import java.util.ArrayList;
import java.util.Arrays;
import java.util.Collections;
import java.util.HashMap;
import java.util.List;
import java.util.Map;

/** A second reading of the document, slow and plain: it lists what it is asked about anew for each call. */
final class PlainOrder {
    private static final long LOST = Long.MIN_VALUE;

    private int d = 2;
    private int m = 0;
    private List<int[]> tables = new ArrayList<>();
    private List<List<Integer>> words = new ArrayList<>();
    private boolean[][] forbidden = new boolean[6][6];
    private List<List<BigInteger>> closure = null;
    private int lastLength = 0;
    private final Object[] sheets = new Object[4];
    private int history = 0;
    private int fault = 0;

    long call(String name, int... p) {
        switch (name) {
            case "begin": return begin(p[0], p[1]);
            case "table": return named(table(p[0], p[1], p[2]));
            case "entry": return entry(p[0], p[1], p[2]);
            case "may": return may(p[0], p[1], p[2] != 0);
            case "length": return length(p[0], p[1]);
            case "extreme": return extreme(p[0], p[1], p[2]);
            case "rings": return rings(p[0]);
            case "ringTrack": return ringTrack(p[0]);
            case "ring": return ring(p[0], p[1]);
            case "growth": return growth(p[0], p[1], p[2]);
            case "close": return close();
            case "closed": return closed(p[0]);
            case "product": return product(p[0], p[1], p[2]);
            case "times": return times(p[0], p[1]);
            case "word": return named(word(p[0], p[1], p[2], p[3]));
            case "join": return join(p[0], p[1]);
            case "letter": return letter(p[0], p[1]);
            case "about": return about(p[0], p[1]);
            case "entryOf": return entryOf(p[0], p[1], p[2]);
            case "size": return size(p[0], p[1]);
            case "sheet": return named(sheet(p[0], p[1], p[2]));
            case "lose": return lose(p[0]);
            case "put": return named(put(p[0], p[1], p[2]));
            case "at": return at(p[0], p[1], p[2]);
            case "tell": return tell(p[0]);
            case "weigh": return weigh(p[0]);
            case "as": return named(as(p[0], p[1]));
            case "history": return history;
            case "fault": return fault;
            case "told": return told(p[0]);
            default: throw new IllegalArgumentException(name);
        }
    }

    private long named(long answer) {
        fault = answer == LOST || answer > -11 ? 0 : (int) (-10 - answer);
        return answer;
    }

    // ---- 1

    private long begin(int newD, int newM) {
        if (newD != 2 && newD != 3) return -2;
        if (newM < 0 || newM == 1 || newM > 97) return -2;
        d = newD;
        m = newM;
        tables = new ArrayList<>();
        words = new ArrayList<>();
        forbidden = new boolean[6][6];
        closure = null;
        return 1;
    }

    private long rowTrouble(int k, int lane) {
        if (k < 0 || k > 3) return -1;
        if (lane < 0 || lane > 2) return -2;
        Object row = sheets[k];
        if (row != null && laneOf(row) != lane) return -12;
        return row == null ? -11 : 0;
    }

    private static int laneOf(Object row) {
        return row instanceof byte[] ? 0 : row instanceof short[] ? 1 : 2;
    }

    private static int lengthOf(Object row) {
        return java.lang.reflect.Array.getLength(row);
    }

    private static int cell(Object row, long i) {
        return java.lang.reflect.Array.getInt(row, (int) i);
    }

    private boolean allThere(Object row, int i, int n) {
        for (long j = i; j < (long) i + n; j++) {
            if (j < 0 || j >= lengthOf(row)) return false;
        }
        return true;
    }

    private long table(int k, int lane, int i) {
        long trouble = rowTrouble(k, lane);
        if (trouble != 0) return trouble;
        if (!allThere(sheets[k], i, d * d)) return -13;
        int[] entries = new int[d * d];
        for (int j = 0; j < d * d; j++) {
            entries[j] = cell(sheets[k], i + j);
            if (entries[j] < -9 || entries[j] > 9) return -2;
        }
        if (tables.size() == 6) return -4;
        tables.add(entries);
        closure = null;
        return tables.size() - 1;
    }

    private boolean noTable(int t) {
        return t < 0 || t >= tables.size();
    }

    private boolean noPlace(int r, int c) {
        return r < 0 || r >= d || c < 0 || c >= d;
    }

    private long entry(int t, int r, int c) {
        return noTable(t) || noPlace(r, c) ? LOST : tables.get(t)[r * d + c];
    }

    private long may(int a, int b, boolean is) {
        if (noTable(a) || noTable(b)) return -1;
        boolean was = !forbidden[a][b];
        forbidden[a][b] = !is;
        return was == is ? 0 : 1;
    }

    // ---- PRODUCTS

    private List<BigInteger> rests(List<BigInteger> entries) {
        List<BigInteger> answer = new ArrayList<>();
        for (BigInteger v : entries) {
            answer.add(m == 0 ? v : v.mod(BigInteger.valueOf(m)));
        }
        return answer;
    }

    private List<BigInteger> ofTable(int t) {
        List<BigInteger> entries = new ArrayList<>();
        for (int v : tables.get(t)) {
            entries.add(BigInteger.valueOf(v));
        }
        return rests(entries);
    }

    private List<BigInteger> multiplied(List<BigInteger> a, List<BigInteger> b) {
        List<BigInteger> entries = new ArrayList<>();
        for (int cell = 0; cell < d * d; cell++) {
            BigInteger sum = BigInteger.ZERO;
            for (int j = 0; j < d; j++) {
                sum = sum.add(a.get(cell / d * d + j).multiply(b.get(j * d + cell % d)));
            }
            entries.add(sum);
        }
        return rests(entries);
    }

    private List<BigInteger> productOf(List<Integer> word) {
        List<BigInteger> product = ofTable(word.get(0));
        for (int letter : word.subList(1, word.size())) {
            product = multiplied(product, ofTable(letter));
        }
        return product;
    }

    private BigInteger norm(List<BigInteger> product) {
        BigInteger greatest = BigInteger.ZERO;
        for (int r = 0; r < d; r++) {
            BigInteger sum = BigInteger.ZERO;
            for (int c = 0; c < d; c++) {
                sum = sum.add(product.get(r * d + c).abs());
            }
            greatest = greatest.max(sum);
        }
        return greatest;
    }

    private BigInteger track(List<BigInteger> product) {
        BigInteger sum = BigInteger.ZERO;
        for (int i = 0; i < d; i++) {
            sum = sum.add(product.get(i * d + i));
        }
        return sum;
    }

    // ---- 2

    private boolean isAllowed(List<Integer> word) {
        for (int i = 1; i < word.size(); i++) {
            if (forbidden[word.get(i - 1)][word.get(i)]) return false;
        }
        return true;
    }

    private boolean goesRound(List<Integer> word) {
        return !forbidden[word.get(word.size() - 1)][word.get(0)];
    }

    /** All ALLOWED WORDS in order, or null if they are too many. */
    private List<List<Integer>> allowedWords(int n) {
        long[] ends = new long[tables.size()];
        Arrays.fill(ends, 1);
        for (int k = 2; k <= n; k++) {
            long[] next = new long[ends.length];
            for (int a = 0; a < ends.length; a++) {
                for (int b = 0; b < ends.length; b++) {
                    next[b] += forbidden[a][b] ? 0 : ends[a];
                }
            }
            ends = next;
        }
        if (Arrays.stream(ends).sum() > 20000) return null;
        List<List<Integer>> found = new ArrayList<>();
        listWords(n, new ArrayList<>(), found);
        return found;
    }

    private void listWords(int n, List<Integer> head, List<List<Integer>> found) {
        if (!isAllowed(head)) return;
        if (head.size() == n) {
            found.add(new ArrayList<>(head));
            return;
        }
        for (int t = 0; t < tables.size(); t++) {
            head.add(t);
            listWords(n, head, found);
            head.remove(head.size() - 1);
        }
    }

    private static int compare(List<Integer> a, List<Integer> b) {
        for (int i = 0; i < a.size(); i++) {
            int order = Integer.compare(a.get(i), b.get(i));
            if (order != 0) return order;
        }
        return 0;
    }

    private static int taken(List<Integer> word) {
        for (int times = word.size(); times > 1; times--) {
            if (word.size() % times == 0) {
                List<Integer> part = word.subList(0, word.size() / times);
                List<Integer> again = new ArrayList<>();
                for (int i = 0; i < times; i++) {
                    again.addAll(part);
                }
                if (again.equals(word)) return times;
            }
        }
        return 1;
    }

    private boolean isRing(List<Integer> word) {
        if (!isAllowed(word) || !goesRound(word) || taken(word) > 1) return false;
        List<Integer> moved = new ArrayList<>(word);
        for (int i = 0; i < word.size(); i++) {
            Collections.rotate(moved, -1);
            if (compare(moved, word) < 0) return false;
        }
        return true;
    }

    private List<Integer> mostOf(List<List<Integer>> of, boolean least) {
        List<Integer> best = null;
        BigInteger bestNorm = null;
        for (List<Integer> word : of) {
            BigInteger norm = norm(productOf(word));
            if (best == null || (least ? norm.compareTo(bestNorm) < 0 : norm.compareTo(bestNorm) > 0)) {
                best = word;
                bestNorm = norm;
            }
        }
        return best;
    }

    private long length(int n, int what) {
        if (n < 1 || n > 8 || what < 0 || what > 3) return LOST;
        List<List<Integer>> all = allowedWords(n);
        if (all == null) return LOST;
        if (what == 0) return all.size();
        if (what == 3) {
            return all.stream().filter(w -> norm(productOf(w)).signum() == 0).count();
        }
        List<Integer> best = mostOf(all, what == 2);
        return best == null ? LOST : norm(productOf(best)).longValueExact();
    }

    private long extreme(int n, int which, int i) {
        if (n < 1 || n > 8 || which < 0 || which > 1 || i < 0 || i >= n) return -2;
        List<List<Integer>> all = allowedWords(n);
        if (all == null) return -6;
        List<Integer> best = mostOf(all, which == 1);
        return best == null ? -9 : best.get(i);
    }

    private List<List<Integer>> ringsAmong(List<List<Integer>> all) {
        List<List<Integer>> found = new ArrayList<>();
        for (List<Integer> word : all) {
            if (isRing(word)) found.add(word);
        }
        return found;
    }

    private List<Integer> theRing(List<List<Integer>> all) {
        List<Integer> best = null;
        for (List<Integer> word : ringsAmong(all)) {
            if (best == null || track(productOf(word)).abs().compareTo(track(productOf(best)).abs()) > 0) {
                best = word;
            }
        }
        return best;
    }

    private long rings(int n) {
        if (n < 1 || n > 8) return -2;
        List<List<Integer>> all = allowedWords(n);
        return all == null ? -6 : ringsAmong(all).size();
    }

    private long ringTrack(int n) {
        if (n < 1 || n > 8) return LOST;
        List<List<Integer>> all = allowedWords(n);
        if (all == null) return LOST;
        List<Integer> best = theRing(all);
        return best == null ? LOST : track(productOf(best)).longValueExact();
    }

    private long ring(int n, int i) {
        if (n < 1 || n > 8 || i < 0 || i >= n) return -2;
        List<List<Integer>> all = allowedWords(n);
        if (all == null) return -6;
        List<Integer> best = theRing(all);
        return best == null ? -9 : best.get(i);
    }

    private long growth(int a, int b, int n) {
        if (a < 1 || a > 9 || b < 1 || b > 9 || n < 1 || n > 7) return -2;
        if (m > 0 || tables.isEmpty()) return -3;
        boolean above = false;
        boolean below = false;
        for (int k = 1; k <= n; k++) {
            List<List<Integer>> all = allowedWords(k);
            if (all == null) return -6;
            BigInteger up = BigInteger.valueOf(a).pow(k);
            BigInteger down = BigInteger.valueOf(b).pow(k);
            boolean allLess = true;
            for (List<Integer> word : all) {
                List<BigInteger> product = productOf(word);
                BigInteger size = track(product).abs().multiply(down);
                above |= goesRound(word) && size.compareTo(up.multiply(BigInteger.valueOf(d))) > 0;
                allLess &= norm(product).multiply(down).compareTo(up) < 0;
            }
            below |= allLess;
        }
        if (above && below) throw new IllegalStateException("above and below at once");
        return above ? 1 : below ? -1 : 0;
    }

    // ---- 3

    private long close() {
        if (tables.isEmpty()) return -3;
        closure = null;
        List<List<BigInteger>> found = new ArrayList<>();
        List<Integer> lengths = new ArrayList<>();
        Map<List<BigInteger>, Integer> numbers = new HashMap<>();
        for (int t = 0; t < tables.size(); t++) {
            List<BigInteger> product = ofTable(t);
            if (numbers.putIfAbsent(product, found.size()) == null) {
                found.add(product);
                lengths.add(1);
            }
        }
        for (int k = 0; k < found.size(); k++) {
            for (int t = 0; t < tables.size(); t++) {
                List<BigInteger> product = multiplied(found.get(k), ofTable(t));
                for (BigInteger v : product) {
                    if (v.abs().compareTo(BigInteger.valueOf(1000000)) > 0) return -6;
                }
                if (numbers.putIfAbsent(product, found.size()) == null) {
                    found.add(product);
                    lengths.add(lengths.get(k) + 1);
                    if (found.size() > 2000) return -6;
                }
            }
        }
        closure = found;
        lastLength = lengths.get(lengths.size() - 1);
        return found.size();
    }

    private List<BigInteger> unit() {
        List<BigInteger> entries = new ArrayList<>();
        for (int cell = 0; cell < d * d; cell++) {
            entries.add(cell / d == cell % d ? BigInteger.ONE : BigInteger.ZERO);
        }
        return entries;
    }

    private long closed(int what) {
        if (what < 0 || what > 4) return -2;
        if (closure == null) return -3;
        if (what == 0) return closure.size();
        if (what == 1) return closure.contains(Collections.nCopies(d * d, BigInteger.ZERO)) ? 1 : 0;
        if (what == 2) return closure.contains(unit()) ? closure.indexOf(unit()) : -9;
        if (what == 3) return closure.stream().filter(p -> multiplied(p, p).equals(p)).count();
        return lastLength;
    }

    private boolean noProduct(int k) {
        return closure == null || k < 0 || k >= closure.size();
    }

    private long product(int k, int r, int c) {
        return noProduct(k) || noPlace(r, c) ? LOST : closure.get(k).get(r * d + c).longValueExact();
    }

    private long times(int k, int j) {
        return noProduct(k) || noProduct(j) ? -1 : closure.indexOf(multiplied(closure.get(k), closure.get(j)));
    }

    // ---- 4

    private long word(int k, int lane, int i, int n) {
        long trouble = rowTrouble(k, lane);
        if (trouble != 0) return trouble;
        if (n < 0) return -14;
        if (!allThere(sheets[k], i, n)) return -13;
        if (n < 1 || n > 12) return -2;
        List<Integer> letters = new ArrayList<>();
        for (int j = 0; j < n; j++) {
            letters.add(cell(sheets[k], i + j));
            if (noTable(letters.get(j))) return -1;
        }
        return keep(letters);
    }

    private long keep(List<Integer> letters) {
        if (words.size() == 10) return -4;
        words.add(letters);
        return words.size() - 1;
    }

    private boolean noWord(int w) {
        return w < 0 || w >= words.size();
    }

    private long join(int a, int b) {
        if (noWord(a) || noWord(b)) return -1;
        List<Integer> letters = new ArrayList<>(words.get(a));
        letters.addAll(words.get(b));
        return letters.size() > 12 ? -2 : keep(letters);
    }

    private long letter(int w, int i) {
        return noWord(w) || i < 0 || i >= words.get(w).size() ? -1 : words.get(w).get(i);
    }

    private long about(int w, int what) {
        if (noWord(w)) return -1;
        List<Integer> word = words.get(w);
        if (what == 0) return word.size();
        if (what == 1) return isAllowed(word) ? 1 : 0;
        if (what == 2) return isRing(word) ? 1 : 0;
        return what == 3 ? taken(word) : -2;
    }

    private long entryOf(int w, int r, int c) {
        return noWord(w) || noPlace(r, c) ? LOST : productOf(words.get(w)).get(r * d + c).longValueExact();
    }

    private long size(int w, int what) {
        if (noWord(w) || what < 0 || what > 1) return LOST;
        List<BigInteger> product = productOf(words.get(w));
        return (what == 0 ? norm(product) : track(product)).longValueExact();
    }

    private long sheet(int k, int lane, int n) {
        if (k < 0 || k > 3) return -1;
        if (lane < 0 || lane > 2 || n > 40) return -2;
        if (n < 0) return -14;
        sheets[k] = lane == 0 ? new byte[n] : lane == 1 ? new short[n] : new int[n];
        return 1;
    }

    private long lose(int k) {
        if (k < 0 || k > 3) return -1;
        boolean had = sheets[k] != null;
        sheets[k] = null;
        return had ? 1 : 0;
    }

    private long put(int k, int i, int v) {
        if (k < 0 || k > 3) return -1;
        if (sheets[k] == null) return -11;
        if (!allThere(sheets[k], i, 1)) return -13;
        if (sheets[k] instanceof byte[] bytes) bytes[i] = (byte) v;
        if (sheets[k] instanceof short[] shorts) shorts[i] = (short) v;
        if (sheets[k] instanceof int[] ints) ints[i] = v;
        return 1;
    }

    private long at(int k, int i, int lane) {
        long trouble = rowTrouble(k, lane);
        if (trouble == 0 && !allThere(sheets[k], i, 1)) trouble = -13;
        named(trouble);
        return trouble == 0 ? cell(sheets[k], i) : LOST;
    }

    private int kindOf(int t) {
        int[] entries = tables.get(t);
        if (Arrays.stream(entries).anyMatch(v -> v < 0)) return 0;
        for (int i = 0; i < d; i++) {
            int ones = 0;
            int others = 0;
            for (int j = 0; j < d; j++) {
                ones += (entries[i * d + j] == 1 ? 1 : 0) + (entries[j * d + i] == 1 ? 100 : 0);
                others += (entries[i * d + j] > 1 ? 1 : 0) + (entries[j * d + i] > 1 ? 1 : 0);
            }
            if (ones != 101 || others != 0) return 1;
        }
        return 2;
    }

    private void leave(int... numbers) {
        for (int number : numbers) {
            history = 31 * history + number;
        }
    }

    private long tell(int t) {
        if (noTable(t)) return -1;
        int[] entries = tables.get(t);
        int sum = 0;
        for (int i = 0; i < d; i++) {
            sum += entries[i * d + i];
        }
        int greatest = Arrays.stream(entries).max().getAsInt();
        int kind = kindOf(t);
        if (kind == 0) leave(1);
        if (kind == 1) leave(2, 1);
        if (kind == 2) leave(3, 2, 1, 1);
        return kind == 0 ? sum : kind == 1 ? sum + greatest : 2 * sum + greatest;
    }

    private long weigh(int t) {
        if (noTable(t)) return -1;
        boolean shuffle = kindOf(t) == 2;
        leave(shuffle ? 5 : 4);
        return shuffle ? 60 : t;
    }

    private long as(int t, int kind) {
        if (noTable(t)) return -1;
        if (kind < 0 || kind > 2) return -2;
        return kind <= kindOf(t) ? 1 : -12;
    }

    private long told(int what) {
        if (what == 0) return tables.size();
        if (what == 1) return d;
        if (what == 2) return m;
        if (what == 3) return words.size();
        if (what != 4) return -2;
        int pairs = 0;
        for (int a = 0; a < tables.size(); a++) {
            for (int b = 0; b < tables.size(); b++) {
                pairs += forbidden[a][b] ? 0 : 1;
            }
        }
        return pairs;
    }
}
