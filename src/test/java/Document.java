import java.io.IOException;
import java.nio.file.Files;
import java.nio.file.Path;
import java.util.BitSet;
import java.util.LinkedHashMap;
import java.util.Map;

/** The sections of ../shared/DOC.md from "Terms" to the last promise, and which of their words are quoted. */
final class Document {
    private static final Path PLACE = Path.of("../shared/DOC.md");

    private final Map<String, StringBuilder> sections = new LinkedHashMap<>();
    private final Map<String, BitSet> quoted = new LinkedHashMap<>();

    Document() throws IOException {
        String section = "";
        for (String line : Files.readAllLines(PLACE)) {
            if (line.startsWith("## Promise ")) {
                section = line.substring("## ".length(), line.indexOf(':'));
            } else if (line.startsWith("## ")) {
                section = "";
            } else if (line.matches("[A-Z ]+")) {
                section = line;
            } else if (!section.isEmpty()) {
                sections.computeIfAbsent(section, name -> new StringBuilder()).append(withoutSignature(line)).append('\n');
            }
        }
        for (String name : sections.keySet()) {
            quoted.put(name, new BitSet());
        }
    }

    /** The signature is not a sentence; LanguageTest looks at it. */
    private static String withoutSignature(String line) {
        return line.replaceFirst("^`[^`]*\\)`: ", "");
    }

    /** Answers false if the words do not stand in the section. */
    boolean quote(String section, String words) {
        StringBuilder text = sections.get(section);
        int from = text == null ? -1 : text.indexOf(words);
        if (from < 0) {
            return false;
        }
        quoted.get(section).set(from, from + words.length());
        return true;
    }

    /** Answers the words that no sentence quotes, or an empty text. */
    String notQuoted() {
        StringBuilder left = new StringBuilder();
        for (Map.Entry<String, StringBuilder> section : sections.entrySet()) {
            StringBuilder here = new StringBuilder();
            for (int i = 0; i < section.getValue().length(); i++) {
                char c = section.getValue().charAt(i);
                boolean counts = Character.isLetterOrDigit(c) && !quoted.get(section.getKey()).get(i);
                if (counts) {
                    here.append(c);
                } else if (here.length() > 0 && here.charAt(here.length() - 1) != ' ') {
                    here.append(' ');
                }
            }
            if (!here.toString().isBlank()) {
                left.append(section.getKey()).append(": ").append(here).append('\n');
            }
        }
        return left.toString();
    }
}
