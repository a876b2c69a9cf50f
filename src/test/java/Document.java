import java.io.IOException;
import java.nio.file.Files;
import java.nio.file.Path;
import java.util.ArrayList;
import java.util.LinkedHashMap;
import java.util.List;
import java.util.Map;

/** The document's promises and terms as texts, and which of their words have been quoted by a test. */
final class Document {
    private final Map<String, String> sections = new LinkedHashMap<>();
    private final Map<String, boolean[]> quoted = new LinkedHashMap<>();

    /** Of a file that cannot be found nothing is known: then every quotation stands. */
    Document(Path file) throws IOException {
        if (!Files.isReadable(file)) {
            System.out.println("Document: no " + file + ", quotations are not looked up");
            return;
        }
        String title = "";
        StringBuilder text = new StringBuilder();
        for (String line : Files.readAllLines(file)) {
            if (line.startsWith("## ")) {
                keep(title, text.toString());
                title = line.substring(3).trim();
                text.setLength(0);
            } else {
                text.append(line).append(' ');
            }
        }
        keep(title, text.toString());
    }

    private void keep(String title, String text) {
        String words = null;
        if (title.startsWith("Promise ")) {
            title = title.substring(0, title.indexOf(':'));
            words = text.substring(text.indexOf("`:") + 2);
        } else if (title.equals("Terms")) {
            // Where the interface says which heading is no promise.
            words = text.replaceAll("```(text)?", " ").replaceAll("Ahead of the calls .*? ---- [^.]*\\.", " ");
        }
        if (words != null) {
            words = words.replaceAll("\\s+", " ").trim();
            sections.put(title, words);
            quoted.put(title, new boolean[words.length()]);
        }
    }

    /** Whether the words stand in the section; marks them as quoted. */
    boolean has(String section, String quotation) {
        if (sections.isEmpty()) {
            return true;
        }
        String words = sections.getOrDefault(section, "");
        int at = words.indexOf(quotation);
        if (at < 0 || quotation.isEmpty()) {
            return false;
        }
        for (; at >= 0; at = words.indexOf(quotation, at + 1)) {
            java.util.Arrays.fill(quoted.get(section), at, at + quotation.length(), true);
        }
        return true;
    }

    /** The parts of promises and terms, with a letter in them, that no test has quoted. */
    List<String> unquoted() {
        List<String> parts = new ArrayList<>();
        for (Map.Entry<String, String> section : sections.entrySet()) {
            boolean[] marked = quoted.get(section.getKey());
            StringBuilder part = new StringBuilder();
            for (int i = 0; i <= marked.length; i++) {
                if (i < marked.length && !marked[i]) {
                    part.append(section.getValue().charAt(i));
                } else {
                    if (part.chars().anyMatch(Character::isLetter)) {
                        parts.add(section.getKey() + ": " + part);
                    }
                    part.setLength(0);
                }
            }
        }
        return parts;
    }
}
