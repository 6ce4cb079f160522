/** Runs tests of boundary cases, each one under the sentence of the document that names it. */
final class Edges {
    interface Edge {
        void test(Check check);
    }

    private final Check check = new Check();
    private final Document document;
    private String sentence = "";
    private int edges;
    private int failed;

    Edges(Document document) {
        this.document = document;
    }

    /** The edges that follow are those of this sentence. */
    Edges sentence(String words) {
        sentence = words;
        if (!document.name(words)) {
            fail("is not in the document, or more than once");
        }
        return this;
    }

    /** A test of its own: whatever happens in it, the others are still made. */
    Edges edge(String name, Edge edge) {
        edges++;
        int calls = check.calls();
        int wrong = check.wrong();
        try {
            edge.test(check);
        } catch (RuntimeException thrown) {
            fail(name + ": ended with " + thrown);
            return this;
        }
        if (check.wrong() != wrong) {
            fail(name);
        } else if (check.calls() == calls) {
            fail(name + ": compares no answer");
        }
        return this;
    }

    private void fail(String why) {
        failed++;
        System.out.println("FAILED  \"" + sentence + "\": " + why);
    }

    void end() {
        for (String piece : document.unnamed()) {
            failed++;
            System.out.println("FAILED  no test names \"" + piece + "\"");
        }
        System.out.println(edges + " edges, " + failed + " failed");
        if (failed != 0) {
            System.exit(1);
        }
        check.end();
    }
}
