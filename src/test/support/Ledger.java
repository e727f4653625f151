import java.io.IOException;
import java.nio.file.Files;
import java.nio.file.Path;
import java.util.Arrays;

/** Keeps which sentence of the document is being tried, and what was not as due. */
final class Ledger {
    private static final Path DOCUMENT = Path.of("../shared/DOC.md");
    private static final boolean[] TRIED = new boolean[36];
    private static final String TEXT = documentText();

    private static int wrong = 0;
    private static int sentences = 0;
    private static int promise = 0;
    private static String words = "";
    private static String latest = "";

    private Ledger() {
    }

    private static String documentText() {
        try {
            return Files.exists(DOCUMENT) ? flat(Files.readString(DOCUMENT)) : "";
        } catch (IOException unreadable) {
            return "";
        }
    }

    private static String flat(String text) {
        return text.replaceAll("\\s+", " ");
    }

    /** What follows tries these words of the document, which the promise of this number uses. */
    static void sentence(int number, String quoted) {
        promise = number;
        words = quoted;
        TRIED[number] = true;
        sentences++;
        if (!TEXT.isEmpty() && !TEXT.contains(flat(quoted))) {
            complain("these words are not the document's");
        }
    }

    static void complain(String what) {
        wrong++;
        System.out.println("promise " + promise + ", \"" + words + "\": " + what);
    }

    static void called(String call) {
        latest = call;
    }

    static void due(long got, long want) {
        if (got != want) {
            complain(latest + " answered " + got + ", due is " + want);
        }
    }

    static void due(boolean got, boolean want) {
        if (got != want) {
            complain(latest + " answered " + got + ", due is " + want);
        }
    }

    /** Both have come the same way but for one call that must have changed nothing, so all that can be seen is alike. */
    static void alike(String call, Probe one, Probe other) {
        int[] seen = one.look();
        int[] wanted = other.look();
        if (!Arrays.equals(seen, wanted)) {
            complain(call + " changed something: " + Arrays.toString(seen) + " is not " + Arrays.toString(wanted));
        }
    }

    static String latestCall() {
        return latest;
    }

    private static void mustBeTried(int number) {
        if (!TRIED[number]) {
            wrong++;
            System.out.println("promise " + number + " has no sentence");
        }
    }

    /** Fails if an answer was not as due, or if one of these promises was not tried. */
    static void close(int... promises) {
        for (int number : promises) {
            mustBeTried(number);
        }
        System.out.println(sentences + " sentences, " + (wrong == 0 ? "all hold" : wrong + " answers are not as due"));
        if (wrong != 0) {
            System.exit(1);
        }
    }
}
