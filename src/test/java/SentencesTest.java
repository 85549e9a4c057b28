import java.io.IOException;
import java.util.List;

/** Each sentence of the document is quoted, and holds. */
public final class SentencesTest {
    private static int wrong = 0;

    public static void main(String[] args) throws IOException, ReflectiveOperationException {
        List<Sentence> sentences = SentenceFile.read();
        Document document = new Document();
        for (Sentence sentence : sentences) {
            if (!document.quote(sentence.section, sentence.words)) {
                tell(sentence + " does not stand in the document");
            }
            if (!sentence.bare && sentence.statements.isEmpty()) {
                tell(sentence + " has no test");
            }
            for (String answer : SentenceRun.of(sentence, BoilerBook.class)) {
                tell(sentence + ": " + answer);
            }
        }
        String left = document.notQuoted();
        if (!left.isEmpty()) {
            tell("no test quotes these words of the document:\n" + left);
        }
        System.out.println("SentencesTest: " + sentences.size() + " sentences, " + wrong + " wrong");
        if (wrong != 0) {
            System.exit(1);
        }
    }

    private static void tell(String what) {
        wrong++;
        System.out.println(what);
    }
}
