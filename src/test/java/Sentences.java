/** Goes through the document: the sentences of a section are held in their order, and none is left out. */
final class Sentences {
    private final Edges edges;
    private final Document document = new Document();
    private int promise;
    private String left = "";

    Sentences(Edges edges) {
        this.edges = edges;
    }

    /** From here on the sentences are those of another section; its first words are the name and the call. */
    void section(int next, String firstWords) {
        dueNoneLeft();
        promise = next;
        left = document.section(next).strip();
        take(firstWords);
    }

    /** From here on the answers are held to this sentence, which is the next one of the section. */
    void hold(String sentence) {
        edges.hold(promise, sentence);
        take(sentence);
    }

    void end() {
        dueNoneLeft();
        edges.end();
    }

    private void take(String words) {
        boolean isNext = left.startsWith(words);
        edges.due("\"" + words + "\" comes next in the document", isNext || !document.isRead(), true);
        left = isNext ? left.substring(words.length()).strip() : left;
    }

    private void dueNoneLeft() {
        edges.due("a sentence is left out: " + left, left.isEmpty(), true);
    }
}
