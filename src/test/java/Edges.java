import java.io.IOException;
import java.nio.file.Files;
import java.nio.file.Path;

/**
 * Runs the tests of the document's sentences that name a boundary case: each sentence has one of
 * its own, on objects of its own. A sentence has to stand in the document as it is quoted.
 */
final class Edges {
    interface Body {
        void run(Check check);
    }

    private static final Path DOCUMENT = Path.of("../shared/DOC.md");

    private final String test;
    private final Check check;
    private final String document;
    private String heading = "";
    private String part = "";
    private int tests;

    Edges(String test) throws IOException {
        this.test = test;
        check = new Check(test);
        document = Files.exists(DOCUMENT) ? Files.readString(DOCUMENT) + "\n## " : "";
    }

    /** The sentences from here on stand under this heading of the document. */
    void under(String newHeading) {
        heading = newHeading;
        int start = document.indexOf("\n## " + heading + "\n");
        part = start < 0 ? "" : document.substring(start, document.indexOf("\n## ", start + 1));
    }

    void of(String sentence, Body body) {
        tests++;
        check.about(heading + ", \"" + sentence + "\"");
        if (!document.isEmpty() && !part.contains(sentence)) {
            check.fail("the document does not say so");
        }
        int before = check.made();
        try {
            body.run(check);
        } catch (RuntimeException thrown) {
            check.fail("threw " + thrown);
        }
        if (check.made() == before) {
            check.fail("nothing is checked");
        }
    }

    void end() {
        check.about("");
        System.out.println(test + ": " + tests + " tests of sentences");
        check.end();
    }
}
