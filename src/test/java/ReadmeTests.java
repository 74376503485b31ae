import java.io.IOException;
import java.lang.reflect.InvocationTargetException;
import java.lang.reflect.Method;
import java.lang.reflect.Modifier;
import java.nio.charset.StandardCharsets;
import java.nio.file.Files;
import java.nio.file.Path;
import java.util.ArrayList;
import java.util.Arrays;
import java.util.HashMap;
import java.util.List;
import java.util.Map;
import java.util.Set;
import java.util.TreeSet;
import java.util.regex.Matcher;
import java.util.regex.Pattern;
import java.util.stream.Stream;

/**
 * The calls that README.md shows answer as README.md says, every method is shown, and the tests that it lists
 * are those that there are. Runs in the project's folder.
 */
public final class ReadmeTests {
    private static final Path README = Path.of("README.md");
    private static final Path TESTS = Path.of("src/test/java");
    private static final Pattern LINE = Pattern.compile("(?<code>.*;)(?:\\s*// (?<comment>.*))?");
    private static final Pattern ANSWER = Pattern.compile("(?<answer>-?\\d+|true|false)(?:, .+)?");
    private static final Pattern NEW = Pattern.compile("SpanSolids (?<name>\\w+) = new SpanSolids\\(\\)");
    private static final Pattern CALL = Pattern.compile(
        "(?:(?<type>int|long|boolean) (?<name>\\w+) = )?(?<object>\\w+)\\.(?<method>\\w+)\\((?<arguments>[^()]*)\\)");
    private static final Pattern LISTED = Pattern.compile("- `(?<test>\\w+Tests)`: .+");

    private static int wrong = 0;
    private static int answers = 0;
    private static final Set<String> shown = new TreeSet<>();

    private static void tell(String fault) {
        wrong++;
        System.out.println(fault);
    }

    /** What README.md says can't be read as a call. */
    private static final class Unreadable extends Exception {
        private static final long serialVersionUID = 1L;

        Unreadable(String why) {
            super(why);
        }
    }

    /** One piece of Java of README.md: its own names, and its lines one by one. */
    private static final class Piece {
        private final Map<String, Object> named = new HashMap<>();

        void line(String line) throws Unreadable {
            Matcher parts = LINE.matcher(line);
            if (!parts.matches()) {
                throw new Unreadable("no statement that ends");
            }
            Object got = null;
            String method = "";
            for (String statement : parts.group("code").split(";")) {
                Matcher call = CALL.matcher(statement.trim());
                got = call.matches() ? answerOf(call) : newObject(statement.trim());
                method = call.matches() ? call.group("method") : "";
            }
            if (parts.group("comment") != null) {
                compare(line, method, got, parts.group("comment"));
            }
        }

        private Object newObject(String statement) throws Unreadable {
            Matcher made = NEW.matcher(statement);
            if (!made.matches()) {
                throw new Unreadable("no call: " + statement);
            }
            name(made.group("name"), new SpanSolids());
            return null;
        }

        private Object answerOf(Matcher call) throws Unreadable {
            Object object = named.get(call.group("object"));
            if (!(object instanceof SpanSolids)) {
                throw new Unreadable("no such object: " + call.group("object"));
            }
            Object[] arguments = arguments(call.group("arguments"));
            Method method = methodOf(call.group("method"), arguments.length);
            Object answer = answerTo(object, method, arguments);
            if (call.group("name") != null) {
                if (!method.getReturnType().getName().equals(call.group("type"))) {
                    throw new Unreadable(method.getName() + " does not answer with " + call.group("type"));
                }
                name(call.group("name"), answer);
            }
            return answer;
        }

        private Object[] arguments(String text) throws Unreadable {
            List<Object> values = new ArrayList<>();
            for (String word : text.split(", ")) {
                Object value = word.matches("-?\\d{1,9}") ? Integer.valueOf(word) : named.get(word);
                if (!(value instanceof Integer)) {
                    throw new Unreadable("no such number: " + word);
                }
                values.add(value);
            }
            return values.toArray();
        }

        private void name(String name, Object value) throws Unreadable {
            if (named.put(name, value) != null) {
                throw new Unreadable("a name used twice: " + name);
            }
        }
    }

    private static Method methodOf(String name, int parameters) throws Unreadable {
        for (Method method : SpanSolids.class.getDeclaredMethods()) {
            if (Modifier.isPublic(method.getModifiers()) && method.getName().equals(name)
                && method.getParameterCount() == parameters) {
                return method;
            }
        }
        throw new Unreadable("no such method: " + name + " with " + parameters + " arguments");
    }

    private static Object answerTo(Object object, Method method, Object[] arguments) throws Unreadable {
        try {
            return method.invoke(object, arguments);
        } catch (IllegalAccessException | InvocationTargetException thrown) {
            throw new Unreadable(method.getName() + " threw " + thrown.getCause());
        }
    }

    private static void compare(String line, String method, Object got, String comment) throws Unreadable {
        Matcher due = ANSWER.matcher(comment);
        if (got == null || !due.matches()) {
            throw new Unreadable("a comment that tells no answer: " + comment);
        }
        answers++;
        shown.add(method);
        if (!got.toString().equals(due.group("answer"))) {
            tell(line.trim() + "\n    answered " + got);
        }
    }

    private static void pieces(List<String> lines) {
        Piece piece = null;
        for (String line : lines) {
            if (line.startsWith("```")) {
                piece = piece == null && line.equals("```java") ? new Piece() : null;
            } else if (piece != null && !line.isBlank()) {
                try {
                    piece.line(line);
                } catch (Unreadable fault) {
                    tell(line.trim() + "\n    " + fault.getMessage());
                }
            }
        }
    }

    private static void everyMethodIsShown() {
        for (Method method : SpanSolids.class.getDeclaredMethods()) {
            if (Modifier.isPublic(method.getModifiers()) && !shown.contains(method.getName())) {
                tell("no call of " + method.getName() + " is shown with its answer");
            }
        }
    }

    private static void testsAreListed(List<String> lines) throws IOException {
        Set<String> listed = new TreeSet<>();
        for (String line : lines) {
            Matcher test = LISTED.matcher(line);
            if (test.matches()) {
                listed.add(test.group("test") + ".java");
            }
        }
        Set<String> there = new TreeSet<>();
        try (Stream<Path> files = Files.list(TESTS)) {
            files.forEach(file -> there.add(file.getFileName().toString()));
        }
        if (!listed.equals(there)) {
            tell("listed are " + listed + ", there are " + there);
        }
    }

    public static void main(String[] args) throws IOException {
        List<String> lines = Arrays.asList(Files.readString(README, StandardCharsets.UTF_8).split("\n"));
        pieces(lines);
        everyMethodIsShown();
        testsAreListed(lines);
        System.out.println(answers + " answers of README.md asked, " + wrong + " things not as due");
        if (wrong != 0) {
            System.exit(1);
        }
    }
}
