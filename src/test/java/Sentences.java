import java.io.IOException;
import java.nio.file.Files;
import java.nio.file.Path;
import java.util.HashSet;
import java.util.Set;

/** A test that goes sentence by sentence: each in the document's own words, each with answers of its own. */
final class Sentences {
    private static final Path DOCUMENT = Path.of("../shared/DOC.md");

    private final Due due;
    private final String document;
    private final Set<String> gone = new HashSet<>();
    private String sentence = "";
    private int askedOfIt = 1;

    Sentences(String suite) throws IOException {
        due = new Due(suite);
        document = Files.exists(DOCUMENT) ? plain(Files.readString(DOCUMENT)) : "";
    }

    private static String plain(String text) {
        return text.replaceAll("\\s+", " ");
    }

    /** What is asked from now on is asked for this sentence. */
    void of(String words) {
        endOfSentence();
        sentence = words;
        askedOfIt = 0;
        due.holds("twice: " + words, gone.add(words));
        // Other words are no fault of the class: they are told, so that the test can be read against the document again.
        if (!document.isEmpty() && !document.contains(plain(words))) {
            System.out.println("not the document's words any more: " + words);
        }
    }

    private void endOfSentence() {
        due.holds("nothing asked for: " + sentence, askedOfIt > 0);
    }

    void is(String what, long got, long want) {
        askedOfIt++;
        due.is("\"" + sentence + "\": " + what, got, want);
    }

    void holds(String what, boolean so) {
        is(what, so ? 1 : 0, 1);
    }

    void same(String what, long[] got, long[] want) {
        is(what + ": how many", got.length, want.length);
        for (int i = 0; i < got.length && i < want.length; i++) {
            is(what + ", " + i, got[i], want[i]);
        }
    }

    void end() {
        endOfSentence();
        System.out.println(gone.size() + " sentences" + (document.isEmpty() ? " (" + DOCUMENT + " is not here)" : ""));
        due.end();
    }
}
