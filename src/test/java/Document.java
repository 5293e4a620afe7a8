import java.io.IOException;
import java.nio.file.Files;
import java.nio.file.Path;
import java.util.ArrayList;
import java.util.Arrays;
import java.util.LinkedHashMap;
import java.util.List;
import java.util.Map;

/** The words of the document, in which the sentences that tests are named by can be looked up. */
final class Document {
    private static final Path PLACE = Path.of("../shared/DOC.md");
    private static final String HEADING = "## ";
    private static final String FENCE = "```";

    /** The chapters by their headings, each in one line. */
    private final Map<String, String> chapters = new LinkedHashMap<>();
    private final Map<String, boolean[]> named = new LinkedHashMap<>();

    private Document(List<String> lines) {
        String heading = "";
        for (String line : lines) {
            if (line.startsWith(HEADING)) {
                heading = line.substring(HEADING.length());
            } else if (!line.startsWith(FENCE)) {
                chapters.merge(heading, line, (before, more) -> before + " " + more);
            }
        }
        chapters.replaceAll((chapter, words) -> words.replaceAll("\\s+", " ").trim());
        chapters.forEach((chapter, words) -> named.put(chapter, new boolean[words.length()]));
    }

    /** Null when the document does not lie where the tests are run. */
    static Document read() {
        if (!Files.isReadable(PLACE)) {
            return null;
        }
        try {
            return new Document(Files.readAllLines(PLACE));
        } catch (IOException e) {
            return null;
        }
    }

    /** Notes that a test bears this sentence; false if it does not stand in that chapter. */
    boolean name(String chapter, String sentence) {
        int first = chapters.getOrDefault(chapter, "").indexOf(sentence);
        if (first < 0) {
            return false;
        }
        Arrays.fill(named.get(chapter), first, first + sentence.length(), true);
        return true;
    }

    /** What no test is named by, of the terms and the promises. */
    List<String> unnamed() {
        List<String> pieces = new ArrayList<>();
        for (String chapter : chapters.keySet()) {
            if (chapter.equals("Terms") || chapter.startsWith("Promise")) {
                addUnnamed(chapter, pieces);
            }
        }
        return pieces;
    }

    private void addUnnamed(String chapter, List<String> pieces) {
        boolean[] marks = named.get(chapter);
        int from = 0;
        while (from < marks.length) {
            int to = from;
            while (to < marks.length && marks[to] == marks[from]) {
                to++;
            }
            String piece = chapters.get(chapter).substring(from, to);
            if (!marks[from] && piece.matches(".*\\w.*")) {
                pieces.add(chapter + ": " + piece.trim());
            }
            from = to;
        }
    }
}
