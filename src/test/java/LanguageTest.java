import java.io.IOException;
import java.lang.reflect.Array;
import java.lang.reflect.Constructor;
import java.lang.reflect.Field;
import java.lang.reflect.Method;
import java.lang.reflect.Modifier;
import java.nio.file.Files;
import java.nio.file.Path;
import java.util.Collections;
import java.util.IdentityHashMap;
import java.util.Set;
import java.util.TreeSet;
import java.util.regex.Matcher;
import java.util.regex.Pattern;

/** The face of the class, and those rules of LANGUAGE.md that a look at the class and its source can tell. */
public final class LanguageTest {
    private static final Check CHECK = new Check("LanguageTest");
    private static final Set<String> FACE = Set.of("addRecipe(int,int,int,int)", "setHeat(int)", "setMost(int)",
            "fall(int)", "book(int,int,int)", "cancel(int)", "move(int,int)", "repair()", "wish(int,int,int)",
            "unwish(int)", "pass(int)", "type(char)", "clearText()", "bookAll()", "undo()", "keep()", "restore()",
            "recipe(int,int)", "robot(int,int)", "booking(int,int)", "wishTold(int,int)", "pressureIn(int)",
            "lowestIn(int)", "why(int,int,int,int)", "earliest(int,int,int)", "count(int)");

    public static void main(String[] args) throws IOException, IllegalAccessException {
        constants();
        face();
        nestedClasses();
        source();
        room();
        CHECK.end();
    }

    private static void holds(String what, boolean truth) {
        CHECK.due(what, truth ? 1 : 0, 1);
    }

    private static void constants() {
        CHECK.promise("the constants");
        CHECK.due("UNKNOWN", BoilerBook.UNKNOWN, -1);
        CHECK.due("BAD_VALUE", BoilerBook.BAD_VALUE, -2);
        CHECK.due("FULL", BoilerBook.FULL, -3);
        CHECK.due("NOT_POSSIBLE", BoilerBook.NOT_POSSIBLE, -4);
        CHECK.due("NONE", BoilerBook.NONE, -5);
        CHECK.due("BUSY", BoilerBook.BUSY, -6);
        CHECK.due("TOO_LOW", BoilerBook.TOO_LOW, -7);
    }

    private static String signature(Method method) {
        StringBuilder text = new StringBuilder(method.getName()).append('(');
        for (Class<?> type : method.getParameterTypes()) {
            text.append(text.charAt(text.length() - 1) == '(' ? "" : ",").append(type.getName());
        }
        return text.append(')').toString();
    }

    private static void face() {
        CHECK.promise("rule 1");
        Set<String> names = new TreeSet<>();
        Set<String> found = new TreeSet<>();
        for (Method method : BoilerBook.class.getDeclaredMethods()) {
            if (Modifier.isPrivate(method.getModifiers())) {
                continue;
            }
            holds(method + " is public", Modifier.isPublic(method.getModifiers()));
            holds(method + " answers an int", method.getReturnType() == int.class);
            found.add(signature(method));
            names.add(method.getName());
        }
        holds("the face is " + found, found.equals(FACE));
        for (Method method : BoilerBook.class.getDeclaredMethods()) {
            boolean hidden = Modifier.isPrivate(method.getModifiers());
            holds(method + " bears a name of its own", !hidden || !names.contains(method.getName()));
        }
        int constants = 0;
        for (Field field : BoilerBook.class.getDeclaredFields()) {
            if (!Modifier.isPrivate(field.getModifiers())) {
                constants++;
            }
        }
        CHECK.due("public fields", constants, 7);
        Constructor<?>[] constructors = BoilerBook.class.getDeclaredConstructors();
        CHECK.due("constructors", constructors.length, 1);
        holds("the class is public and final", Modifier.isFinal(BoilerBook.class.getModifiers())
                && Modifier.isPublic(BoilerBook.class.getModifiers()));
    }

    private static void nestedClasses() {
        CHECK.promise("rules 2, 5 and 11");
        Class<?>[] nested = BoilerBook.class.getDeclaredClasses();
        holds("at most twelve classes", nested.length < 12);
        checkFields(BoilerBook.class);
        for (Class<?> one : nested) {
            int how = one.getModifiers();
            holds(one + " is static", Modifier.isStatic(how));
            holds(one + " is neither public nor protected", !Modifier.isPublic(how) && !Modifier.isProtected(how));
            checkFields(one);
            for (Method method : one.getDeclaredMethods()) {
                holds(method + " takes at most seven", method.getParameterCount() <= 7);
                holds(method + " is not named like the face", !FACE.toString().contains(method.getName() + "("));
            }
        }
    }

    private static void checkFields(Class<?> one) {
        int fields = 0;
        for (Field field : one.getDeclaredFields()) {
            if (!Modifier.isStatic(field.getModifiers())) {
                fields++;
                continue;
            }
            holds(field + " is final", Modifier.isFinal(field.getModifiers()));
            holds(field + " is an int", field.getType() == int.class);
        }
        holds(one + " has some twenty fields", fields <= 20);
    }

    private static String withoutComments(String source) {
        return source.replaceAll("(?s)/\\*.*?\\*/", "").replaceAll("//[^\n]*", "");
    }

    private static void source() throws IOException {
        CHECK.promise("rules 1, 4, 6 and 11");
        String source = withoutComments(Files.readString(Path.of("src/main/java/BoilerBook.java")));
        String[] banned = {"\\bpackage\\b", "\\bimport\\b", "\\bthrows?\\b", "\\btry\\b", "\\bcatch\\b", "\\bassert\\b",
            "\\bsynchronized\\b", "\\bwhile\\b", "->", "::", "Exact\\b", "\"", "@", "[^\\x00-\\x7f]"};
        String code = source.replaceAll("'[^']*'", "0");
        for (String word : banned) {
            holds("no " + word, !Pattern.compile(word).matcher(code).find());
        }
        Matcher library = Pattern.compile("\\b(System|Math|Integer|Arrays|Long|String|Object)\\.(\\w+)").matcher(code);
        Set<String> allowed = Set.of("System.arraycopy", "Math.min", "Math.max");
        while (library.find()) {
            holds(library.group() + " is in the library", allowed.contains(library.group()));
        }
        checkLengths(code.split("\n"));
        onlyConstructorsMake(code.split("\n"));
    }

    /** So that a call costs no room, however often it is made. */
    private static void onlyConstructorsMake(String[] lines) {
        CHECK.promise("rule 12");
        Pattern constructor = Pattern.compile("( {4}| {8})(public |private )?[A-Z]\\w*\\(.*\\) \\{");
        Pattern making = Pattern.compile("\\bnew\\b|\\.clone\\(|\\bcopyOf");
        int made = 0;
        String end = "";
        for (String line : lines) {
            Matcher head = constructor.matcher(line);
            if (head.matches()) {
                end = head.group(1) + "}";
            } else if (line.equals(end)) {
                end = "";
            } else if (making.matcher(line).find()) {
                made++;
                holds("'" + line.strip() + "' stands in a constructor", !end.isEmpty());
            }
        }
        holds("what is made is found", made > 30);
    }

    /** What one object of the program holds, of the 600,000 objects and 7.3 million cells that a run has. */
    private static void room() throws IllegalAccessException {
        CHECK.promise("the room");
        Set<Object> seen = Collections.newSetFromMap(new IdentityHashMap<>());
        long cells = cells(new BoilerBook(), seen);
        holds(seen.size() + " objects are few", seen.size() > 100 && seen.size() <= 200);
        holds(cells + " fields and elements are few", cells > 3000 && cells <= 5000);
    }

    private static long cells(Object one, Set<Object> seen) throws IllegalAccessException {
        if (one == null || !seen.add(one)) {
            return 0;
        }
        long cells = 0;
        if (one.getClass().isArray()) {
            boolean ofObjects = !one.getClass().getComponentType().isPrimitive();
            for (int i = 0; i < Array.getLength(one); i++) {
                cells += 1 + (ofObjects ? cells(Array.get(one, i), seen) : 0);
            }
            return cells;
        }
        for (Field field : one.getClass().getDeclaredFields()) {
            if (!Modifier.isStatic(field.getModifiers())) {
                field.setAccessible(true);
                cells += 1 + (field.getType().isPrimitive() ? 0 : cells(field.get(one), seen));
            }
        }
        return cells;
    }

    private static void checkLengths(String[] lines) {
        Pattern head = Pattern.compile("( {4}| {8})(public |private |static |final )*[\\w\\[\\]]+( \\w+)?\\(.*");
        int methods = 0;
        for (int begun = 0; begun < lines.length; begun++) {
            Matcher method = head.matcher(lines[begun]);
            if (!method.matches() || !lines[begun].endsWith("{") || lines[begun].matches(" *(if|for|switch) .*")) {
                continue;
            }
            int end = begun;
            while (!lines[end].equals(method.group(1) + "}")) {
                end++;
            }
            methods++;
            holds("'" + lines[begun].strip() + "' has at most sixty lines", end - begun < 60);
        }
        holds("the methods are found", methods > 80);
    }
}
