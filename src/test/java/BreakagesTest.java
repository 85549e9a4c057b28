import java.io.ByteArrayOutputStream;
import java.io.IOException;
import java.io.OutputStream;
import java.net.URI;
import java.nio.file.Files;
import java.nio.file.Path;
import java.util.ArrayList;
import java.util.Collections;
import java.util.HashMap;
import java.util.List;
import java.util.Map;
import javax.tools.DiagnosticCollector;
import javax.tools.FileObject;
import javax.tools.ForwardingJavaFileManager;
import javax.tools.JavaCompiler;
import javax.tools.JavaFileManager;
import javax.tools.JavaFileObject;
import javax.tools.SimpleJavaFileObject;
import javax.tools.ToolProvider;

/** Each sentence's test fails as soon as the program breaks the sentence: it is tried on broken programs. */
public final class BreakagesTest {
    private static final JavaCompiler COMPILER = ToolProvider.getSystemJavaCompiler();

    private record Trial(Sentence sentence, Sentence.Breakage breakage) {
        @Override
        public String toString() {
            return sentence + ", broken by line " + breakage.line();
        }
    }

    private static final class Source extends SimpleJavaFileObject {
        private final String text;

        Source(String text) {
            super(URI.create("memory:///BoilerBook.java"), Kind.SOURCE);
            this.text = text;
        }

        @Override
        public CharSequence getCharContent(boolean ignoreErrors) {
            return text;
        }
    }

    private static final class Binary extends SimpleJavaFileObject {
        final ByteArrayOutputStream bytes = new ByteArrayOutputStream();

        Binary(String name) {
            super(URI.create("memory:///" + name + ".class"), Kind.CLASS);
        }

        @Override
        public OutputStream openOutputStream() {
            return bytes;
        }
    }

    private static final class Binaries extends ForwardingJavaFileManager<JavaFileManager> {
        final Map<String, Binary> made = new HashMap<>();

        Binaries(JavaFileManager rest) {
            super(rest);
        }

        @Override
        public JavaFileObject getJavaFileForOutput(Location place, String name, JavaFileObject.Kind kind, FileObject from) {
            return made.computeIfAbsent(name, Binary::new);
        }
    }

    private static final class Loader extends ClassLoader {
        private final Map<String, Binary> made;

        Loader(Map<String, Binary> made) {
            super(ClassLoader.getPlatformClassLoader());
            this.made = made;
        }

        @Override
        protected Class<?> findClass(String name) throws ClassNotFoundException {
            Binary binary = made.get(name);
            if (binary == null) {
                throw new ClassNotFoundException(name);
            }
            byte[] bytes = binary.bytes.toByteArray();
            return defineClass(name, bytes, 0, bytes.length);
        }
    }

    public static void main(String[] args) throws IOException {
        String source = Files.readString(Path.of("src/main/java/BoilerBook.java"));
        List<String> faults = Collections.synchronizedList(new ArrayList<>());
        Map<String, List<Trial>> trials = new HashMap<>();
        int many = 0;
        for (Sentence sentence : SentenceFile.read()) {
            if (!sentence.bare && sentence.breakages.isEmpty()) {
                faults.add(sentence + " is never broken");
            }
            for (Sentence.Breakage breakage : sentence.breakages) {
                many++;
                Trial trial = new Trial(sentence, breakage);
                String broken = broken(source, breakage);
                if (broken.isEmpty()) {
                    faults.add(trial + " changes what is not the program's, or stands there twice");
                } else {
                    trials.computeIfAbsent(broken, text -> new ArrayList<>()).add(trial);
                }
            }
        }
        trials.entrySet().parallelStream().forEach(entry -> faults.addAll(faultsOf(entry.getKey(), entry.getValue())));
        faults.forEach(System.out::println);
        System.out.println("BreakagesTest: " + many + " breakages by " + trials.size() + " broken programs, "
                + faults.size() + " wrong");
        if (!faults.isEmpty()) {
            System.exit(1);
        }
    }

    /** Answers an empty text if the program has not the words that are to be replaced. */
    private static String broken(String source, Sentence.Breakage breakage) {
        String text = source;
        for (Sentence.Edit edit : breakage.edits()) {
            int from = placeOf(edit, text);
            if (from < 0) {
                return "";
            }
            text = text.substring(0, from) + edit.replace() + text.substring(from + edit.find().length());
        }
        return text;
    }

    private static List<String> faultsOf(String text, List<Trial> trials) {
        List<String> faults = new ArrayList<>();
        try (Binaries binaries = new Binaries(COMPILER.getStandardFileManager(null, null, null))) {
            DiagnosticCollector<JavaFileObject> told = new DiagnosticCollector<>();
            if (!COMPILER.getTask(null, binaries, told, List.of("-proc:none", "-g:none"), null, List.of(new Source(text))).call()) {
                return List.of(trials.get(0) + " does not compile: " + told.getDiagnostics());
            }
            Class<?> program = new Loader(binaries.made).loadClass("BoilerBook");
            for (Trial trial : trials) {
                if (SentenceRun.of(trial.sentence(), program).isEmpty()) {
                    faults.add(trial + ": no call tells it");
                }
            }
        } catch (IOException | ReflectiveOperationException e) {
            faults.add(trials.get(0) + ": " + e);
        }
        return faults;
    }

    private static int placeOf(Sentence.Edit edit, String text) {
        int from = edit.anchor().isEmpty() ? 0 : text.indexOf(edit.anchor());
        int place = from < 0 ? -1 : text.indexOf(edit.find(), from);
        boolean twice = edit.anchor().isEmpty() && place >= 0 && text.indexOf(edit.find(), place + 1) >= 0;
        return twice ? -1 : place;
    }
}
