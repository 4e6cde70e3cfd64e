import java.io.IOException;
import java.nio.file.Files;
import java.nio.file.Path;
import java.util.ArrayList;
import java.util.List;
import java.util.TreeMap;

/** The sentences of ../shared/DOC.md by their promises; 0 stands for what the sections ahead of them tell. */
final class Document {
    private static final Path PLACE = Path.of("..", "shared", "DOC.md");
    private static final int NO_SECTION = -1;

    private Document() {
    }

    static TreeMap<Integer, List<String>> sentences() throws IOException {
        TreeMap<Integer, List<String>> sentences = new TreeMap<>();
        int section = NO_SECTION;
        for (String line : Files.readAllLines(PLACE)) {
            if (line.startsWith("#")) {
                section = sectionOf(line);
            } else if (section != NO_SECTION && isText(line)) {
                sentences.computeIfAbsent(section, key -> new ArrayList<>()).addAll(sentencesOf(line));
            }
        }
        return sentences;
    }

    private static int sectionOf(String heading) {
        if (heading.equals("## What it is") || heading.equals("## Terms")) {
            return 0;
        }
        return heading.startsWith("## Promise ") ? Integer.parseInt(heading.split("[ :]+")[2]) : NO_SECTION;
    }

    /** The lines about the order of the face tell nothing of what a call does. */
    private static boolean isText(String line) {
        return !line.isBlank() && !line.startsWith("```") && !line.matches("</?pre>")
                && !line.startsWith("Ahead of the calls");
    }

    /** Without the signature, the titles of one word and the marks of the page. */
    private static List<String> sentencesOf(String line) {
        String text = line.replaceFirst("^`[^`]*\\(.*?`: ", "").replaceFirst("^- ", "").replace("`", "");
        List<String> sentences = new ArrayList<>();
        for (String sentence : text.strip().replaceAll("\\s+", " ").split("(?<=\\.) ")) {
            if (sentence.contains(" ")) {
                sentences.add(sentence);
            }
        }
        return sentences;
    }
}
