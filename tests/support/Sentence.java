import java.io.IOException;
import java.io.UncheckedIOException;
import java.nio.file.Files;
import java.nio.file.Path;

/** Words of the document that the answers behind them stand for: they are looked up, so that none is quoted amiss. */
final class Sentence {
    private static final String DOCUMENT = document();
    private static String part = "";
    private static String words = "";

    private Sentence() {
    }

    /** All that the document says, or what stands under one of its headings ("Terms", "Promise 7: limit"). */
    static void in(String heading) {
        int from = DOCUMENT.indexOf("## " + heading + " ");
        int to = from < 0 ? -1 : DOCUMENT.indexOf(" ## ", from);
        Check.holds("the document has a heading " + heading, from >= 0);
        part = from < 0 ? "" : DOCUMENT.substring(from, to < 0 ? DOCUMENT.length() : to);
    }

    static void says(String quoted) {
        words = quoted;
        Check.holds("the document says \"" + quoted + "\"", part.contains(quoted));
    }

    static void due(String call, long got, long want) {
        Check.due("\"" + words + "\": " + call, got, want);
    }

    private static String document() {
        try {
            return Files.readString(Path.of("../shared/DOC.md")).replaceAll("\\s+", " ");
        } catch (IOException e) {
            throw new UncheckedIOException(e);
        }
    }
}
