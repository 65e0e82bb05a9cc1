import java.io.IOException;
import java.nio.file.Files;
import java.nio.file.Path;
import java.util.ArrayList;
import java.util.LinkedHashMap;
import java.util.List;
import java.util.Map;

/** The sections of ../shared/DOC.md, and which of their words no test has quoted yet. */
final class Document {
    private static final Path PATH = Path.of("../shared/DOC.md");
    private static final char QUOTED = '#';

    /** By heading, 'Promise 2' for 'Promise 2: pass'. */
    private final Map<String, String> texts = new LinkedHashMap<>();
    private final Map<String, String> left = new LinkedHashMap<>();

    static Document read() {
        Document document = new Document();
        try {
            String heading = "";
            for (String line : Files.readAllLines(PATH)) {
                if (line.startsWith("#")) {
                    heading = line.replaceAll("^#+ ", "").replaceAll(":.*", "");
                } else if (!line.startsWith("Ahead of the calls ")) {
                    document.texts.merge(heading, withoutSignature(line) + "\n", String::concat);
                }
            }
        } catch (IOException e) {
            System.out.println("no " + PATH + ": the sentences are not looked up");
        }
        document.left.putAll(document.texts);
        return document;
    }

    /** FaceTest holds the signatures, and the lines of the interface say nothing that a call could break. */
    private static String withoutSignature(String line) {
        return line.replaceAll("^`[^`]*\\([^`]*`:", "");
    }

    /** Answers whether the words stand in the section, which counts them as quoted from now on. */
    boolean quote(String section, String words) {
        if (texts.isEmpty()) {
            return true;
        }
        String text = texts.get(section);
        int at = text == null ? -1 : text.indexOf(words);
        if (at < 0) {
            return false;
        }
        StringBuilder marked = new StringBuilder(left.get(section));
        for (int i = at; i < at + words.length(); i++) {
            marked.setCharAt(i, QUOTED);
        }
        left.put(section, marked.toString());
        return true;
    }

    /** What has words in a section that were not quoted. */
    List<String> unquoted(String section) {
        List<String> parts = new ArrayList<>();
        for (String part : left.getOrDefault(section, "").split("[" + QUOTED + "\n]+")) {
            if (part.matches(".*\\w.*")) {
                parts.add(part.trim());
            }
        }
        return parts;
    }
}
