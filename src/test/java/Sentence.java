import java.io.IOException;
import java.nio.file.Files;
import java.nio.file.Path;

/** A sentence of the document, with the calls that would show it broken. */
final class Sentence {
    private static final Path DOCUMENT = Path.of("../shared/DOC.md");
    private static final String TOLD = told();

    private Sentence() {
    }

    /** The words must still stand in the document, so that no test outlives its sentence. */
    static void holds(String words, Runnable calls) {
        if (!TOLD.isEmpty()) {
            Check.isTrue("the document says \"" + words + "\"", TOLD.contains(words));
        }
        int before = Check.wrongSoFar();
        calls.run();
        if (Check.wrongSoFar() > before) {
            System.out.println("BROKEN: " + words);
        }
    }

    /** The document on one line, each gap a single space; empty if it is not there. */
    static String document() {
        return TOLD;
    }

    private static String told() {
        try {
            return Files.exists(DOCUMENT)
                    ? Files.readString(DOCUMENT).replaceAll("\\s+", " ")
                    : "";
        } catch (IOException e) {
            return "";
        }
    }
}
