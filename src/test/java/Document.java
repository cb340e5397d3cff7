import java.io.IOException;
import java.nio.charset.StandardCharsets;
import java.nio.file.Files;
import java.nio.file.Path;
import java.util.ArrayList;
import java.util.List;

/** The sentences of the document, each behind the name of its section: "Promise 4: `deck`: 0 or 1". */
final class Document {
    private static final Path FILE = Path.of("..", "shared", "DOC.md");
    private static final String NOT_PROMISED = "Not promised";

    private Document() {
    }

    static List<String> sentences() throws IOException {
        List<String> found = new ArrayList<>();
        String section = "";
        boolean isCode = false;
        for (String line : Files.readAllLines(FILE, StandardCharsets.UTF_8)) {
            if (line.startsWith("```")) {
                isCode = !isCode;
            } else if (line.startsWith("#")) {
                section = sectionOf(line);
            } else if (!isCode && !line.isBlank() && !section.equals(NOT_PROMISED)) {
                addSentences(found, section, line);
            }
        }
        return found;
    }

    /** "## Promise 4: bar" is told as "Promise 4". */
    private static String sectionOf(String header) {
        return header.replaceFirst("^#+ ", "").replaceFirst(":.*", "");
    }

    /** A list's dash and the face of a call are no words of a sentence. */
    private static void addSentences(List<String> found, String section, String line) {
        String text = line.strip().replaceFirst("^- ", "").replaceFirst("^`[^`]*\\([^`]*`: ", "");
        for (String sentence : text.split("(?<=\\.) (?=[A-Z])")) {
            found.add(section + ": " + sentence);
        }
    }
}
