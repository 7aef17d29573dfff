import java.io.IOException;
import java.nio.charset.StandardCharsets;
import java.nio.file.Files;
import java.nio.file.Path;

/** A test of its own for each sentence of the document that names a boundary case: see edge(). */
final class Edges {
    static final int MIN = Integer.MIN_VALUE;
    static final int MAX = Integer.MAX_VALUE;

    private static String document = "";

    private Edges() {
    }

    /** The tests are called with the path of the class and then that of the document. */
    static void open(String[] args) throws IOException {
        String path = args.length > 1 ? args[1] : "../shared/DOC.md";
        document = oneLine(Files.readString(Path.of(path), StandardCharsets.UTF_8));
    }

    private static String oneLine(String text) {
        return text.replaceAll("\\s+", " ").trim();
    }

    /** Tests one sentence. The words must stand in the document, so that no test outlives its sentence. */
    static void edge(String sentence, Checks.Call test) {
        edgeIn(document, "[" + sentence + "] ", sentence, test);
    }

    /** The same for a sentence of one promise: others may have the same words. */
    static void edge(int promise, String sentence, Checks.Call test) {
        int start = document.indexOf("## Promise " + promise + ":");
        int end = document.indexOf("## ", start + 3);
        String words = start < 0 || end < 0 ? "" : document.substring(start, end);
        edgeIn(words, "[promise " + promise + ": " + sentence + "] ", sentence, test);
    }

    private static void edgeIn(String words, String topic, String sentence, Checks.Call test) {
        Checks.about(topic);
        Checks.due("stands in the document", words.contains(oneLine(sentence)), true);
        try {
            test.make();
        } catch (RuntimeException e) {
            Checks.due("the test ended by " + e, false, true);
        }
        Checks.about("");
    }
}
