import java.io.IOException;
import java.io.UncheckedIOException;
import java.nio.file.Files;
import java.nio.file.Path;
import java.util.function.IntSupplier;

/** What all tests of the project use: answers are compared, and a test ends with 1 if one was wrong. */
final class Check {
    private static int checks = 0;
    private static int wrong = 0;
    private static String sentence = "";
    private static String document = null;

    private Check() {
    }

    /** From here on these words of the document are tested: they stand ahead of each wrong answer. */
    static void sentence(String words) {
        sentence = "";
        if (!document().isEmpty()) {
            same("\"" + words + "\" stands in the document", true, document().contains(words));
        }
        sentence = "\"" + words + "\": ";
    }

    /** The document in one line; empty where it does not lie beside the project. */
    private static String document() {
        if (document == null) {
            Path path = Path.of("../shared/DOC.md");
            try {
                document = Files.exists(path) ? Files.readString(path).replaceAll("\\s+", " ") : "";
            } catch (IOException e) {
                throw new UncheckedIOException(e);
            }
        }
        return document;
    }

    static void same(String what, Object due, Object got) {
        checks++;
        if (!due.equals(got)) {
            wrong++;
            System.out.println(sentence + what + " answered " + got + ", due is " + due);
        }
    }

    static void due(String what, int due, int got) {
        same(what, due, got);
    }

    /** Calls that throw answer the exception's simple name, so that one row of a table can ask for it. */
    static Object answer(IntSupplier call) {
        try {
            return call.getAsInt();
        } catch (RuntimeException e) {
            return e.getClass().getSimpleName();
        }
    }

    static void refused(String what, Class<? extends RuntimeException> due, IntSupplier call) {
        same(what, due.getSimpleName(), answer(call));
    }

    /** The text of the page. */
    static String page(TeaCourt court) {
        StringBuilder text = new StringBuilder();
        int length = court.count(4);
        for (int k = 0; k < length; k++) {
            text.append((char) court.octet(k));
        }
        return text.toString();
    }

    /** A call that prints: how many bytes it told is the page's length, and the page is what is due. */
    static void printed(String what, TeaCourt court, String due, int bytes) {
        same(what + " printed", due, bytes < 0 ? "(nothing: " + bytes + ")" : page(court));
        same(what + " told bytes", due.length(), bytes);
    }

    static void end() {
        System.out.println(checks + " checks, " + wrong + " wrong");
        if (wrong > 0) {
            System.exit(1);
        }
    }
}
