import java.io.IOException;
import java.lang.reflect.Method;
import java.lang.reflect.Modifier;
import java.nio.file.Files;
import java.nio.file.Path;
import java.util.HashMap;
import java.util.List;
import java.util.Map;
import java.util.regex.Matcher;
import java.util.regex.Pattern;
import java.util.stream.Stream;

/** README.md tells a run whose answers hold, and names each call and each test. */
public final class ReadmeTest {
    private static final Check CHECK = new Check("ReadmeTest");
    private static final Pattern CALL = Pattern.compile("book\\.(\\w+)\\((.*)\\); +// (-?\\d+): .*");

    public static void main(String[] args) throws IOException, ReflectiveOperationException {
        CHECK.promise("README.md");
        String readme = Files.readString(Path.of("README.md"));
        Map<String, Method> methods = new HashMap<>();
        for (Method method : BoilerBook.class.getDeclaredMethods()) {
            if (Modifier.isPublic(method.getModifiers())) {
                methods.put(method.getName(), method);
                isNamed(readme, method.getName());
            }
        }
        for (String constant : List.of("UNKNOWN", "BAD_VALUE", "FULL", "NOT_POSSIBLE", "NONE", "BUSY", "TOO_LOW")) {
            isNamed(readme, constant);
        }
        try (Stream<Path> tests = Files.list(Path.of("src/test/java"))) {
            tests.map(test -> test.getFileName().toString()).filter(name -> name.endsWith("Test.java"))
                    .forEach(name -> isNamed(readme, name.substring(0, name.length() - ".java".length())));
        }
        makeRun(readme, methods);
        CHECK.end();
    }

    private static void isNamed(String readme, String name) {
        CHECK.due("how often `" + name + "` is named is above 0", readme.contains("`" + name + "`") ? 1 : 0, 1);
    }

    private static void makeRun(String readme, Map<String, Method> methods) throws ReflectiveOperationException {
        int from = readme.indexOf("```java\n") + "```java\n".length();
        String[] lines = readme.substring(from, readme.indexOf("```", from)).split("\n");
        CHECK.due("the run begins with a new object", lines[0].startsWith("BoilerBook book = new BoilerBook();") ? 1 : 0, 1);
        BoilerBook book = new BoilerBook();
        for (int line = 1; line < lines.length; line++) {
            Matcher call = CALL.matcher(lines[line]);
            if (!call.matches() || !methods.containsKey(call.group(1))) {
                CHECK.due("'" + lines[line] + "' is a call with its answer", 0, 1);
                continue;
            }
            Object answer = methods.get(call.group(1)).invoke(book, arguments(call.group(2)));
            CHECK.due(lines[line], (Integer) answer, Integer.parseInt(call.group(3)));
        }
    }

    private static Object[] arguments(String list) {
        if (list.isEmpty()) {
            return new Object[0];
        }
        String[] parts = list.split(", ");
        Object[] arguments = new Object[parts.length];
        for (int i = 0; i < parts.length; i++) {
            if (parts[i].startsWith("'")) {
                arguments[i] = parts[i].charAt(1);
            } else {
                arguments[i] = Integer.parseInt(parts[i]);
            }
        }
        return arguments;
    }
}
