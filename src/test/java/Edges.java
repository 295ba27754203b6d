import java.io.IOException;
import java.io.UncheckedIOException;
import java.nio.file.Files;
import java.nio.file.Path;

/** Tests of one sentence of the document each. What a test quotes must stand in the document. */
final class Edges {
    private static final Path DOCUMENT = Path.of("../shared/DOC.md");

    private final Checks checks = new Checks();
    private final String document = words(read());
    private int dues = 0;

    /** Runs the test of a sentence, and tells the sentence if it does not hold. */
    void sentence(String quote, Runnable test) {
        int before = checks.wrongSoFar();
        dues = 0;
        if (!document.isEmpty()) {
            checks.due("the document says: " + quote, document.contains(words(quote)), true);
        }
        test.run();
        checks.due("something is asked of: " + quote, dues > 0, true);
        if (checks.wrongSoFar() != before) {
            System.out.println("  ^ it does not hold: " + quote);
        }
    }

    void due(String call, long got, long want) {
        dues++;
        checks.due(call, got, want);
    }

    void due(String call, boolean got, boolean want) {
        dues++;
        checks.due(call, got, want);
    }

    void finish() {
        checks.finish();
    }

    /** Empty where only the program and its tests were checked out. */
    private static String read() {
        if (!Files.exists(DOCUMENT)) {
            System.out.println("no " + DOCUMENT + " here: what is quoted is not looked up");
            return "";
        }
        try {
            return Files.readString(DOCUMENT);
        } catch (IOException e) {
            throw new UncheckedIOException(e);
        }
    }

    private static String words(String text) {
        return text.replaceAll("\\s+", " ").trim();
    }
}
