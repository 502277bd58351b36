import java.io.IOException;
import java.nio.file.Files;
import java.nio.file.Path;

/** Counts the answers that are not as due. */
final class Due {
    private static final Path DOCUMENT = Path.of("../shared/DOC.md");

    private final String title;
    private String document = "";
    private String sentence = "";
    private int asked;
    private int wrong;

    Due(String title) {
        this.title = title;
    }

    /** The words of the document for which the next answers are due; where it can be read, it must have them. */
    void sentence(String words) {
        sentence = " (" + words + ")";
        if (document.isEmpty() && Files.isReadable(DOCUMENT)) {
            document = inOneLine(readDocument());
        }
        yes("the document has this sentence", document.isEmpty() || document.contains(inOneLine(words)));
    }

    void is(String call, long got, long want) {
        asked++;
        if (got != want) {
            wrong++;
            System.out.println(title + sentence + ": " + call + " answered " + got + ", due is " + want);
        }
    }

    void yes(String call, boolean got) {
        is(call, got ? 1 : 0, 1);
    }

    void no(String call, boolean got) {
        is(call, got ? 1 : 0, 0);
    }

    int wrongCount() {
        return wrong;
    }

    void end() {
        System.out.println(title + ": " + asked + " answers, " + wrong + " not as due");
        if (wrong != 0 || asked == 0) {
            System.exit(1);
        }
    }

    private static String readDocument() {
        try {
            return Files.readString(DOCUMENT);
        } catch (IOException e) {
            throw new IllegalStateException("no document", e);
        }
    }

    private static String inOneLine(String text) {
        return text.replaceAll("\\s+", " ");
    }
}
