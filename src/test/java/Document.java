import java.io.IOException;
import java.nio.file.Files;
import java.nio.file.Path;
import java.util.ArrayList;
import java.util.LinkedHashMap;
import java.util.List;
import java.util.Map;
import java.util.regex.Matcher;
import java.util.regex.Pattern;

/** The document's text by sections, each on one line, and which of its words a test has quoted. */
final class Document {
    static final Path PATH = Path.of("../shared/DOC.md");
    static final String TERMS = "Terms";

    private final Map<String, String> texts = new LinkedHashMap<>();
    private final Map<String, boolean[]> quoted = new LinkedHashMap<>();

    Document() throws IOException {
        String[] parts = Files.readString(PATH).split("(?m)^## ");
        for (String part : parts) {
            int end = part.indexOf('\n');
            String title = part.substring(0, end).trim();
            Matcher numbered = Pattern.compile("Promise (\\d+):.*").matcher(title);
            String name = numbered.matches() ? numbered.group(1) : title;
            String text = plain(part.substring(end));
            texts.put(name, text);
            quoted.put(name, new boolean[text.length()]);
        }
    }

    private static String plain(String text) {
        return text.replaceAll("```\\w*", " ").replaceAll("====", " ").replaceAll("\\s+", " ").trim();
    }

    static String promise(int number) {
        return Integer.toString(number);
    }

    String text(String section) {
        return texts.getOrDefault(section, "");
    }

    boolean has(String section) {
        return texts.containsKey(section);
    }

    /** Whether the words stand in the section where none has quoted them yet; they count as quoted then. */
    boolean quote(String section, String words) {
        String text = text(section);
        boolean[] marks = quoted.get(section);
        for (int at = text.indexOf(words); at >= 0; at = text.indexOf(words, at + 1)) {
            if (!marks[at]) {
                for (int i = at; i < at + words.length(); i++) {
                    marks[i] = true;
                }
                return true;
            }
        }
        return false;
    }

    /** The pieces of a section with a letter or a digit in them that have not been quoted. */
    List<String> unquoted(String section) {
        List<String> pieces = new ArrayList<>();
        StringBuilder piece = new StringBuilder();
        String text = text(section);
        for (int i = 0; i <= text.length(); i++) {
            if (i < text.length() && !quoted.get(section)[i]) {
                piece.append(text.charAt(i));
            } else {
                if (piece.chars().anyMatch(Character::isLetterOrDigit)) {
                    pieces.add(piece.toString().trim());
                }
                piece.setLength(0);
            }
        }
        return pieces;
    }
}
