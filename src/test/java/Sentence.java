import java.util.ArrayList;
import java.util.List;

/** A sentence of the document, or a part of one: the calls that hold it, and the changes that break it. */
final class Sentence {
    /** Words of the program that are replaced; the first ones behind the anchor, if there is one. */
    record Edit(String anchor, String find, String replace) { }

    /** Edits that together break the sentence. */
    record Breakage(int line, List<Edit> edits) { }

    record Statement(int line, String words) { }

    final int line;
    final String section;
    final String words;
    /** Whether it promises no answer of a call, so that it has no test. */
    final boolean bare;
    final List<Statement> statements = new ArrayList<>();
    final List<Breakage> breakages = new ArrayList<>();

    Sentence(int line, String section, String words, boolean bare) {
        this.line = line;
        this.section = section;
        this.words = words;
        this.bare = bare;
    }

    @Override
    public String toString() {
        return "line " + line + ", " + section + ", '" + words + "'";
    }
}
