import java.io.IOException;
import java.util.regex.Matcher;
import java.util.regex.Pattern;

/** The document read from its first line to its last: its words are quoted, and tested as an Edge does. */
final class Reading {
    static final int PROMISES = 31;

    final Edge edge = new Edge();
    private final Document document;

    Reading() throws IOException {
        document = new Document();
        for (int promise = 1; promise <= PROMISES; promise++) {
            signature(promise);
        }
    }

    /** A promise begins with the call that it is of; the face has the same one. */
    private void signature(int promise) {
        String section = Document.promise(promise);
        Matcher first = Pattern.compile("`([^`]+)`:").matcher(document.text(section));
        edge.holds("promise " + promise + " begins with its call", first.lookingAt() && document.quote(section, first.group()));
        String call = first.lookingAt() ? first.group(1) : "nothing";
        edge.holds("the face has " + call, document.text("The public face").contains("public " + call + ";"));
    }

    /** Words of 'Terms', told by what a promise's call answers. */
    void term(int promise, String words) {
        quote(Document.TERMS, words);
        edge.sentence(promise, words);
    }

    /** A promise's own words. */
    void promise(int promise, String words) {
        quote(Document.promise(promise), words);
        edge.sentence(promise, words);
    }

    /** Words of 'Terms' that no call can answer otherwise than they say. */
    void remark(String words) {
        quote(Document.TERMS, words);
    }

    private void quote(String section, String words) {
        edge.holds("the document says in " + section + ": " + words, document.quote(section, words));
    }

    /** Every word of the terms and of the promises has been quoted, and there is no further promise. */
    void end() {
        allQuoted(Document.TERMS);
        for (int promise = 1; promise <= PROMISES; promise++) {
            allQuoted(Document.promise(promise));
        }
        edge.holds("there are " + PROMISES + " promises", !document.has(Document.promise(PROMISES + 1)));
        edge.end();
    }

    private void allQuoted(String section) {
        for (String piece : document.unquoted(section)) {
            edge.holds("there is a test for what is said in " + section + ": " + piece, false);
        }
    }
}
