import java.io.IOException;
import java.nio.charset.StandardCharsets;
import java.nio.file.Files;
import java.nio.file.Path;

/** Counts the answers of one test that are not as due, and ends the test. */
final class Due {
    private static final Path DOCUMENT = Path.of("../shared/DOC.md");

    private static int asked = 0;
    private static int wrong = 0;
    private static String document = "";
    private static String sentence = "";

    private Due() {
    }

    static void due(String call, long got, long want) {
        asked++;
        if (got != want) {
            wrong++;
            System.out.println(call + " answered " + got + ", due is " + want + sentence);
        }
    }

    static void isTrue(String claim, boolean holds) {
        asked++;
        if (!holds) {
            wrong++;
            System.out.println("does not hold: " + claim + sentence);
        }
    }

    /** The sentence that the answers to come are due by. It must stand in the document as it is told. */
    static void sentence(String quote) {
        sentence = "";
        isTrue("the document says: " + quote, document().contains(quote));
        sentence = " (\"" + quote + "\")";
    }

    /** Ends the test: with exit code 1 if an answer was wrong, or if none was asked for. */
    static void end() {
        System.out.println(asked + " answers, " + wrong + " not as due");
        if (wrong > 0 || asked == 0) {
            System.exit(1);
        }
    }

    /** Lines are broken in the document where they happen to end, so breaks are blanks here. */
    private static String document() {
        if (document.isEmpty()) {
            try {
                document = Files.readString(DOCUMENT, StandardCharsets.UTF_8).replaceAll("\\s+", " ");
            } catch (IOException e) {
                throw new IllegalStateException("no document at " + DOCUMENT, e);
            }
        }
        return document;
    }
}
