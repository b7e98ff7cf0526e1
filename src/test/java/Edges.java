import java.io.IOException;
import java.util.HashSet;
import java.util.Set;
import java.util.function.Consumer;

/** Runs one test for each sentence of the document that names an edge, and tells by the sentence which one fails. */
final class Edges {
    private final Document document;
    private final Checks whole = new Checks("EdgeTest");
    private final Set<String> told = new HashSet<>();
    private String heading = "";

    Edges() throws IOException {
        document = Document.read();
        if (!document.isThere()) {
            System.out.println("EdgeTest: no ../shared/DOC.md, so the sentences are not looked for there");
        }
    }

    /** The edges behind this are of that part of the document. */
    void of(String part) {
        heading = part;
    }

    void edge(String sentence, Consumer<Checks> test) {
        String name = heading + ": \"" + sentence + "\"";
        if (document.isThere()) {
            whole.yes("in the document, " + name, document.says(heading, sentence));
        }
        whole.yes("told once, " + name, told.add(heading + "|" + Document.plain(sentence)));
        Checks checks = new Checks(name);
        try {
            test.accept(checks);
        } catch (RuntimeException thrown) {
            checks.yes("a call threw " + thrown.getClass().getName(), false);
        }
        whole.yes(name, checks.allAsDue());
    }

    /** No refusal of the document is without a test of its own. */
    void finish() throws IOException {
        for (String[] refusal : document.refusals()) {
            whole.yes("a test of " + refusal[0] + ": " + refusal[1], told.contains(refusal[0] + "|" + refusal[1]));
        }
        whole.finish();
    }
}
