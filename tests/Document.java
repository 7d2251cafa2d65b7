import java.io.IOException;
import java.nio.file.Files;
import java.nio.file.Path;
import java.util.ArrayList;
import java.util.List;

/** The document's own text, and that of the project's pages. */
final class Document {
    private Document() {
    }

    /** A file told by a property, as .ci/run does, or else by its place beside the project. */
    static String read(String property, String place) {
        try {
            return Files.readString(Path.of(System.getProperty(property, place)));
        } catch (IOException e) {
            throw new IllegalStateException("cannot read what " + property + " names", e);
        }
    }

    static String document() {
        return read("placecard.doc", "../shared/DOC.md");
    }

    /** What stands between two texts, the first of each from the start on; neither may be missing. */
    static String between(String text, String start, String end) {
        int from = text.indexOf(start);
        int to = from < 0 ? -1 : text.indexOf(end, from + start.length());
        if (to < 0) {
            throw new IllegalStateException("there is nothing between " + start + " and " + end);
        }
        return text.substring(from + start.length(), to);
    }

    /** "Terms" without its examples, in one line. */
    static String terms() {
        return between(document(), "## Terms", "Examples:").replace("<p>", " ").replaceAll("\\s+", " ").strip();
    }

    /** The sentences of "Terms", without the words that stand ahead of each part. */
    static List<String> sentences() {
        List<String> found = new ArrayList<>();
        for (String sentence : terms().split("(?<=[.]) (?=[A-Z])")) {
            if (sentence.indexOf(' ') >= 0) {
                found.add(sentence);
            }
        }
        return found;
    }

    /** The examples, each with all its rows in one line. */
    static List<String> examples() {
        String text = between(document(), "stands its result.", "Ahead of the calls");
        List<String> found = new ArrayList<>();
        for (String example : text.split("(?m)^- ")) {
            String line = example.replaceAll("(?m)^```.*$", " ").replaceAll("\\s+", " ").strip();
            if (!line.isEmpty()) {
                found.add(line);
            }
        }
        return found;
    }
}
