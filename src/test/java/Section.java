import java.io.IOException;
import java.nio.file.Files;
import java.nio.file.Path;
import java.util.ArrayList;
import java.util.List;

/**
 * A section of the document, gone through sentence by sentence: each of them is quoted, those that name a boundary case
 * with a test of their own, and none may be left.
 */
final class Section {

    private static final Path DOCUMENT = Path.of("../shared/DOC.md");
    // the head of a promise, which FaceTest compares
    private static final String SIGNATURE = "`[^`]*\\([^`]*\\)[^`]*`: ";

    private final String heading;
    private String untold;

    Section(String heading) {
        this.heading = heading;
        untold = read(heading);
    }

    /** Without the document the tests are run, but the quotes can't be compared with it. */
    static boolean isThere() {
        return Files.isRegularFile(DOCUMENT);
    }

    private static List<String> lines() {
        if (!isThere()) {
            return List.of();
        }
        try {
            return Files.readAllLines(DOCUMENT);
        } catch (IOException e) {
            Check.due("the document", e.toString(), "is read");
            return List.of();
        }
    }

    private static String read(String heading) {
        StringBuilder text = new StringBuilder();
        boolean inside = false;
        for (String line : lines()) {
            if (line.startsWith("#")) {
                inside = line.equals(heading);
            } else if (inside) {
                text.append(line).append(' ');
            }
        }
        return text.toString().replaceAll(SIGNATURE, "");
    }

    /** The headings of the document, so that a new section is noticed. */
    static List<String> headings() {
        List<String> headings = new ArrayList<>(lines());
        headings.removeIf(line -> !line.startsWith("#"));
        return headings;
    }

    private void take(String sentence) {
        if (!isThere()) {
            return;
        }
        int at = untold.indexOf(sentence);
        Check.due(heading + " of the document says '" + sentence + "'", at >= 0, true);
        if (at >= 0) {
            untold = untold.substring(0, at) + untold.substring(at + sentence.length());
        }
    }

    /** A sentence that can be broken at a boundary, and the test that would notice it. */
    Section says(String sentence, Runnable test) {
        take(sentence);
        String begin = sentence.length() > 90 ? sentence.substring(0, 90) + " .." : sentence;
        Check.sentence(heading + ": '" + begin + "'", test);
        return this;
    }

    /** A sentence that gives names for the others and has no boundary of its own. */
    Section explains(String sentence) {
        take(sentence);
        return this;
    }

    void end() {
        Check.due("what is left of " + heading, untold.replaceAll("[-\\s]", ""), "");
    }
}
