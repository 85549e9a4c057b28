import java.lang.reflect.InvocationTargetException;
import java.lang.reflect.Method;
import java.util.ArrayList;
import java.util.HashMap;
import java.util.List;
import java.util.Map;
import java.util.regex.Matcher;
import java.util.regex.Pattern;

/** Makes the calls of a sentence on a class, which is the program or one that is broken on purpose. */
final class SentenceRun {
    private static final Pattern CALL =
            Pattern.compile("(held |(\\d+)\\* )?(\\w+)\\(([-\\d, ]*)\\)( -?\\d+)?");
    private static final int[] PARTS_OF_A_BOOKING = {0, 1, 2, 3, 4, 5, 6, 7};

    private final Class<?> program;
    private final Map<String, Method> methods = new HashMap<>();
    private final List<String> wrong = new ArrayList<>();
    private Object x;
    private Sentence.Statement at;
    private List<Integer> mark = null;

    private SentenceRun(Class<?> program) throws ReflectiveOperationException {
        this.program = program;
        for (Method method : program.getDeclaredMethods()) {
            methods.put(method.getName(), method);
        }
        renew();
    }

    /** Answers what was not as due; anything thrown counts as such. */
    static List<String> of(Sentence sentence, Class<?> program) throws ReflectiveOperationException {
        SentenceRun run = new SentenceRun(program);
        for (Sentence.Statement statement : sentence.statements) {
            run.at = statement;
            try {
                run.make(statement.words());
            } catch (InvocationTargetException thrown) {
                run.isWrong("throws " + thrown.getCause());
            }
        }
        return run.wrong;
    }

    private void renew() throws ReflectiveOperationException {
        x = program.getConstructor().newInstance();
    }

    private void isWrong(String how) {
        wrong.add("line " + at.line() + ": " + at.words() + ": " + how);
    }

    private void make(String words) throws ReflectiveOperationException {
        if (words.equals("new")) {
            renew();
        } else if (words.startsWith("put ")) {
            put(words.substring("put ".length()));
        } else if (words.startsWith("fill ")) {
            fill(Integer.parseInt(words.substring("fill ".length())));
        } else if (words.startsWith("constant ")) {
            constant(words.split(" "));
        } else if (words.equals("mark")) {
            mark = told();
        } else if (words.equals("marked")) {
            compare(told(), mark);
        } else if (words.equals("changed")) {
            if (told().equals(mark)) {
                isWrong("nothing has changed");
            }
        } else {
            call(words);
        }
    }

    private void compare(List<Integer> got, List<Integer> due) {
        if (!got.equals(due)) {
            isWrong("what is told is " + got + ", due is " + due);
        }
    }

    private void call(String words) throws ReflectiveOperationException {
        Matcher call = CALL.matcher(words);
        if (!call.matches() || !methods.containsKey(call.group(3))) {
            throw new IllegalArgumentException("line " + at.line() + ": '" + words + "' is no statement");
        }
        boolean held = "held ".equals(call.group(1));
        int times = call.group(2) == null ? 1 : Integer.parseInt(call.group(2));
        List<Integer> before = held ? everything() : List.of();
        for (int time = 0; time < times; time++) {
            int answer = ask(call.group(3), numbers(call.group(4)));
            if (call.group(5) == null && answer < 0) {
                isWrong("answered " + answer + ", due is no error");
            } else if (call.group(5) != null && answer != Integer.parseInt(call.group(5).strip())) {
                isWrong("answered " + answer);
            }
        }
        if (held) {
            compare(everything(), before);
        }
    }

    private static int[] numbers(String list) {
        if (list.isBlank()) {
            return new int[0];
        }
        String[] parts = list.split(",");
        int[] numbers = new int[parts.length];
        for (int i = 0; i < parts.length; i++) {
            numbers[i] = Integer.parseInt(parts[i].strip());
        }
        return numbers;
    }

    private int ask(String name, int... numbers) throws ReflectiveOperationException {
        Method method = methods.get(name);
        Object[] arguments = new Object[numbers.length];
        for (int i = 0; i < numbers.length; i++) {
            if (method.getParameterTypes()[i] == char.class) {
                arguments[i] = (char) numbers[i];
            } else {
                arguments[i] = numbers[i];
            }
        }
        return (Integer) method.invoke(x, arguments);
    }

    private void put(String quoted) throws ReflectiveOperationException {
        ask("clearText");
        String text = quoted.substring(1, quoted.length() - 1);
        for (int i = 0; i < text.length(); i++) {
            int length = ask("type", text.charAt(i));
            if (length != i + 1) {
                isWrong("type(" + (int) text.charAt(i) + ") answered " + length);
            }
        }
    }

    /** Books the recipe 0, which should have one tick, until there have been so many bookings. */
    private void fill(int bookings) throws ReflectiveOperationException {
        for (int number = ask("count", 5); number < bookings; number++) {
            int answer = ask("book", number % 6, 0, ask("count", 0) + 1 + number / 6);
            if (answer != number) {
                isWrong("book() answered " + answer + ", due is " + number);
                return;
            }
        }
    }

    private void constant(String[] words) throws ReflectiveOperationException {
        int value = program.getField(words[1]).getInt(null);
        if (value != Integer.parseInt(words[2])) {
            isWrong("it is " + value);
        }
    }

    /** The state, as far as it is told: all but the history and the text. */
    private List<Integer> told() throws ReflectiveOperationException {
        List<Integer> told = new ArrayList<>();
        for (int what = 0; what <= 15; what++) {
            told.add(ask("count", what));
        }
        addAll(told, "recipe", ask("count", 4), 5);
        addAll(told, "robot", 6, 4);
        addAll(told, "booking", ask("count", 5), PARTS_OF_A_BOOKING.length);
        addAll(told, "wishTold", ask("count", 12), 4);
        return told;
    }

    private void addAll(List<Integer> told, String name, int many, int parts) throws ReflectiveOperationException {
        for (int number = 0; number < many; number++) {
            for (int what = 0; what < parts; what++) {
                told.add(ask(name, number, what));
            }
        }
    }

    private List<Integer> everything() throws ReflectiveOperationException {
        List<Integer> everything = told();
        everything.add(ask("count", 16));
        everything.add(ask("count", 17));
        return everything;
    }
}
