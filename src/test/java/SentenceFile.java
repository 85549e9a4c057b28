import java.io.IOException;
import java.nio.file.Files;
import java.nio.file.Path;
import java.util.ArrayList;
import java.util.List;

/** Reads src/test/sentences.txt; its form is told at its head. */
final class SentenceFile {
    static final Path PLACE = Path.of("src/test/sentences.txt");

    private final List<Sentence> sentences = new ArrayList<>();
    private String section = "";
    private Sentence current = null;

    static List<Sentence> read() throws IOException {
        SentenceFile file = new SentenceFile();
        List<String> lines = Files.readAllLines(PLACE);
        for (int i = 0; i < lines.size(); i++) {
            file.take(i + 1, lines.get(i).strip());
        }
        return file.sentences;
    }

    private void take(int number, String line) {
        if (line.isEmpty() || line.startsWith("#")) {
            return;
        }
        if (line.startsWith("[")) {
            section = line.substring(1, line.length() - 1);
            return;
        }
        if (line.startsWith("> ") || line.startsWith("~ ")) {
            current = new Sentence(number, section, line.substring(2), line.startsWith("~"));
            sentences.add(current);
            return;
        }
        if (current == null) {
            throw new IllegalArgumentException("line " + number + " stands ahead of the first sentence");
        }
        if (line.startsWith("break ")) {
            List<Sentence.Edit> edits = new ArrayList<>();
            edits.add(edit(number, line.substring("break ".length())));
            current.breakages.add(new Sentence.Breakage(number, edits));
        } else if (line.startsWith("and ")) {
            current.breakages.get(current.breakages.size() - 1).edits().add(edit(number, line.substring("and ".length())));
        } else {
            takeStatements(number, line);
        }
    }

    private void takeStatements(int number, String line) {
        // a text may hold a ";" itself
        String[] parts = line.startsWith("put ") ? new String[] {line} : line.split(";");
        for (String part : parts) {
            if (!part.isBlank()) {
                current.statements.add(new Sentence.Statement(number, part.strip()));
            }
        }
    }

    private static Sentence.Edit edit(int number, String words) {
        String anchor = "";
        String rest = words;
        if (words.startsWith("@")) {
            int end = words.indexOf('@', 1);
            anchor = words.substring(1, end);
            rest = words.substring(end + 1).strip();
        }
        int arrow = rest.indexOf("=>");
        if (arrow < 0) {
            throw new IllegalArgumentException("line " + number + " has no '=>'");
        }
        return new Sentence.Edit(anchor, rest.substring(0, arrow).strip(), rest.substring(arrow + 2).strip());
    }
}
