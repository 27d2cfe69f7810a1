import java.io.IOException;
import java.io.UncheckedIOException;
import java.nio.file.Files;
import java.nio.file.Path;

/** Counts the answers that are not the ones due, sentence by sentence of the document, and ends the test by them. */
final class Check {
    private static final Path DOCUMENT = Path.of("../shared/DOC.md");
    private static final int SHOWN = 50;

    private final String test;
    private final String document;
    private String sentence = "";
    private int sentences;
    private int checks;
    private int wrong;

    Check(String test) {
        this.test = test;
        document = documentOrNull();
    }

    private static String documentOrNull() {
        try {
            return Files.isReadable(DOCUMENT) ? plain(Files.readString(DOCUMENT)) : null;
        } catch (IOException e) {
            throw new UncheckedIOException(e);
        }
    }

    private static String plain(String text) {
        return text.replaceAll("\\s+", " ");
    }

    /** Tries one sentence of the document; its words are quoted, so that what is tested can be found there. */
    void sentence(String where, String words, Runnable tries) {
        int before = checks;
        sentence = ", " + where + " \"" + words + "\"";
        tries.run();
        yes("something was looked at", checks > before);
        if (document != null && !document.contains(plain(words))) {
            System.out.println("notice: the document doesn't say (any more)" + sentence);
        }
        sentence = "";
        sentences++;
    }

    void due(String call, long got, long want) {
        checks++;
        if (got != want) {
            wrong++;
            if (wrong <= SHOWN) {
                System.out.println(test + sentence + ": " + call + " answered " + got + ", due is " + want);
            }
        }
    }

    void due(String call, boolean got, boolean want) {
        due(call, got ? 1 : 0, want ? 1 : 0);
    }

    void yes(String what, boolean got) {
        due(what, got, true);
    }

    void finish() {
        String tried = sentences == 0 ? "" : sentences + " sentences, ";
        System.out.println(test + ": " + tried + checks + " answers looked at, " + wrong + " wrong");
        if (wrong != 0 || checks == 0) {
            System.exit(1);
        }
    }
}
