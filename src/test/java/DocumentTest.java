import java.io.IOException;

/**
 * The document once more, from its first line to its last: every piece of its terms and of its promises stands here in
 * its own words, beside the number of a promise that shows it, with calls whose answers were worked out by hand.
 */
public final class DocumentTest {
    public static void main(String[] args) throws IOException {
        Reading r = new Reading();
        DocumentTerms.read(r);
        DocumentPromises.read(r);
        r.end();
    }
}
