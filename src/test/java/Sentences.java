import java.io.IOException;
import java.nio.file.Files;
import java.nio.file.Path;

/**
 * The document's sentences one behind another, each with checks of its own. A sentence that is
 * not the document's, one that is left out, and one without a check count as wrong answers.
 */
final class Sentences {
    private static final Path DOCUMENT = Path.of("../shared/DOC.md");

    private final Due due;
    private final String document;
    private String heading = "";
    private String section = "";
    private int at;

    Sentences(Due due) {
        this.due = due;
        this.document = read();
    }

    /** The document in one line; empty, where it is not there: then the checks alone are made. */
    private static String read() {
        try {
            String text = Files.readString(DOCUMENT);
            return text.replace("```text", " ").replace("```", " ").replaceAll("\\s+", " ");
        } catch (IOException notThere) {
            System.out.println(DOCUMENT + " is not there: what the tests say it says is not looked at");
            return "";
        }
    }

    private boolean isThere() {
        return !document.isEmpty();
    }

    /** What stands between two marks of the document: it is told whole, up to the next section or the end. */
    void section(String from, String to) {
        close();
        heading = from.strip();
        int start = document.indexOf(from);
        int end = document.indexOf(to, start + from.length());
        boolean found = start >= 0 && end >= 0;
        due.isTrue("the document has '" + from + "' .. '" + to + "'", found || !isThere());
        section = found ? document.substring(start + from.length(), end) : "";
    }

    /** What a promise says behind the face of its call. */
    void promise(int number, String name) {
        section("## Promise " + number + ": " + name + " ", "## ");
        section = section.replaceFirst("^`[^`]*`: ", "");
    }

    void says(String words, Runnable checks) {
        comeTo(words);
        int ahead = due.checked();
        due.under(heading + ": '" + words + "': ");
        checks.run();
        due.under("");
        due.isTrue("'" + words + "' has a check of its own", due.checked() > ahead);
    }

    private void comeTo(String words) {
        int found = section.indexOf(words, at);
        due.isTrue(heading + " says '" + words + "' there", found >= 0 || !isThere());
        if (found >= 0) {
            leaveOut(section.substring(at, found));
            at = found + words.length();
        }
    }

    private void leaveOut(String words) {
        due.isTrue(heading + " is told whole, not without '" + words + "'", words.matches("[ .;:,]*"));
    }

    private void close() {
        leaveOut(section.substring(at));
        section = "";
        at = 0;
    }

    void end() {
        close();
        due.end();
    }
}
