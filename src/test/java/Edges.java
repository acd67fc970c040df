import java.io.IOException;
import java.nio.file.Files;
import java.nio.file.Path;
import java.util.TreeSet;

/**
 * Sentences of the document that name a boundary, each with a test of its own. The words must stand in the document as
 * they are quoted, so that an edge is missed when the document changes. STORKS_SHARED is the document's folder (else
 * ../shared).
 */
final class Edges {
    static final int WHAT_IT_IS = -1;
    static final int TERMS = 0;
    /** Six that differ in WORTH, and six BIRDS that come to have them one behind the other. */
    static final String SIX_ROOFS = "r901@0;r801@0;r701@0;r601@0;r501@1;r401@1";
    static final String SIX_BIRDS = "b5;b5;b5;b5;b5;b5";
    private final Due due;
    private final String document;
    private final TreeSet<Integer> promises = new TreeSet<>();
    private int edges = 0;

    Edges(String name) throws IOException {
        due = new Due(name);
        document = Files.readString(Path.of(System.getenv().getOrDefault("STORKS_SHARED", "../shared"), "DOC.md"));
    }

    /** What is to be so by a sentence. */
    interface Check {
        void run(Due due);
    }

    private static String heading(int promise) {
        switch (promise) {
            case WHAT_IT_IS:
                return "What it is";
            case TERMS:
                return "Terms";
            default:
                return "Promise " + promise;
        }
    }

    /** The part of the document behind a heading. */
    private String section(int promise) {
        int start = document.indexOf("## " + heading(promise) + (promise > TERMS ? ":" : "\n"));
        int end = document.indexOf("\n## ", start);
        return start < 0 ? "" : document.substring(start, end < 0 ? document.length() : end);
    }

    void edge(int promise, String words, Check check) {
        edges++;
        promises.add(promise);
        due.about(heading(promise) + ", \"" + words + "\": ");
        due.is("the document says so", section(promise).contains(words), true);
        check.run(due);
    }

    /** Each promise of these must have had an edge. */
    void finish(int first, int last) {
        for (int promise = first; promise <= last; promise++) {
            due.about(heading(promise) + ": ");
            due.is("it has an edge", promises.contains(promise), true);
        }
        due.about(edges + " edges, ");
        due.finish();
    }
}
