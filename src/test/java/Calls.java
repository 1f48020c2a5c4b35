import java.util.Arrays;
import java.util.List;
import java.util.stream.Collectors;

/** Calls of the face by name, so that tests can list them, say them and make them again. */
final class Calls {
    private static final List<String> NAMING_FAULTS = Arrays.asList("table", "word", "sheet", "put", "at", "as");

    private Calls() {
    }

    /** A boolean is told as 1 or 0. */
    static long ask(AnyOrder x, String name, int... p) {
        switch (name) {
            case "begin": return x.begin(p[0], p[1]);
            case "table": return x.table(p[0], p[1], p[2]);
            case "entry": return x.entry(p[0], p[1], p[2]);
            case "may": return x.may(p[0], p[1], p[2] != 0);
            case "length": return x.length(p[0], p[1]);
            case "extreme": return x.extreme(p[0], p[1], p[2]);
            case "rings": return x.rings(p[0]);
            case "ringTrack": return x.ringTrack(p[0]);
            case "ring": return x.ring(p[0], p[1]);
            case "growth": return x.growth(p[0], p[1], p[2]);
            case "close": return x.close();
            case "closed": return x.closed(p[0]);
            case "product": return x.product(p[0], p[1], p[2]);
            case "times": return x.times(p[0], p[1]);
            case "word": return x.word(p[0], p[1], p[2], p[3]);
            case "join": return x.join(p[0], p[1]);
            case "letter": return x.letter(p[0], p[1]);
            case "about": return x.about(p[0], p[1]);
            case "entryOf": return x.entryOf(p[0], p[1], p[2]);
            case "size": return x.size(p[0], p[1]);
            case "sheet": return x.sheet(p[0], p[1], p[2]);
            case "lose": return x.lose(p[0]);
            case "put": return x.put(p[0], p[1], p[2]);
            case "at": return x.at(p[0], p[1], p[2]);
            case "tell": return x.tell(p[0]);
            case "weigh": return x.weigh(p[0]);
            case "as": return x.as(p[0], p[1]);
            case "history": return x.history();
            case "fault": return x.fault();
            case "told": return x.told(p[0]);
            default: throw new IllegalArgumentException(name);
        }
    }

    static boolean namesFaults(String name) {
        return NAMING_FAULTS.contains(name);
    }

    static String text(String name, int... p) {
        return name + Arrays.stream(p).mapToObj(Integer::toString).collect(Collectors.joining(", ", "(", ")"));
    }
}
