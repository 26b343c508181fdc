import java.io.IOException;
import java.nio.file.Files;
import java.nio.file.Path;
import java.util.ArrayList;
import java.util.BitSet;
import java.util.LinkedHashMap;
import java.util.List;
import java.util.Map;

/** The words of the document, section by section, and which of them were quoted. */
final class Document {
    private static final Path FILE = Path.of("../shared/DOC.md");

    private final Map<String, String> sections = new LinkedHashMap<>();
    private final Map<String, BitSet> quoted = new LinkedHashMap<>();

    static Document read() throws IOException {
        Document document = new Document();
        for (String section : Files.readString(FILE).split("(?m)^## ")) {
            String heading = section.lines().findFirst().orElse("");
            String name = heading.replaceAll("Promise (\\d+):.*", "$1");
            if (name.equals("What it is") || name.equals("Terms") || !name.equals(heading)) {
                document.put(name, section.substring(heading.length()));
            }
        }
        return document;
    }

    private void put(String name, String section) {
        String withoutFace = section.strip().replaceFirst("^`[^`]*`: ", "");
        String withoutMarks = withoutFace.replaceAll("(?m)^- ", "").replaceAll("(?m)^[A-Z ]+$", "").replace("`", "");
        sections.put(name, withoutMarks.replaceAll("\\s+", " ").strip());
        quoted.put(name, new BitSet());
    }

    /** Answers whether the words stand in the section, and marks them there. */
    boolean quote(String name, String words) {
        String section = sections.getOrDefault(name, "");
        int at = section.indexOf(words);
        if (at < 0 || words.isEmpty()) {
            return false;
        }
        quoted.get(name).set(at, at + words.length());
        return true;
    }

    /** What nobody quoted: a section and words of it each. */
    List<String> unquoted() {
        List<String> left = new ArrayList<>();
        for (Map.Entry<String, String> section : sections.entrySet()) {
            BitSet marks = quoted.get(section.getKey());
            int end = section.getValue().length();
            for (int at = marks.nextClearBit(0); at < end; at = marks.nextClearBit(at)) {
                int next = marks.nextSetBit(at) < 0 ? end : marks.nextSetBit(at);
                String words = section.getValue().substring(at, next);
                if (words.matches(".*\\w.*")) {
                    left.add(section.getKey() + ": \"" + words.strip() + "\"");
                }
                at = next;
            }
        }
        return left;
    }
}
