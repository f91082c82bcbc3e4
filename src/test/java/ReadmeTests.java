import java.io.IOException;
import java.lang.reflect.InvocationTargetException;
import java.lang.reflect.Method;
import java.lang.reflect.Modifier;
import java.nio.file.Files;
import java.nio.file.Path;
import java.util.ArrayList;
import java.util.List;
import java.util.Set;
import java.util.TreeSet;
import java.util.regex.Matcher;
import java.util.regex.Pattern;
import java.util.stream.Stream;

/** README.md against the class: its example, what it tells of each call, and which tests it names. */
public final class ReadmeTests extends Check {
    private static final Path README = Path.of("README.md");
    private static final Path TESTS = Path.of("src/test/java");
    private static final Pattern EXAMPLE = Pattern.compile("x\\.(\\w+)\\((.*)\\); +// (-?\\d+|throws \\w+): .+");
    private static final Pattern EXCEPTION = Pattern.compile("`(\\w+Exception)`");

    private static String text = "";

    public static void main(String[] args) throws IOException {
        text = Files.readString(README);
        List<String> tests = testNames();
        test(ReadmeTests::exampleAnswersWhatItSays);
        test(ReadmeTests::eachCallIsTold);
        test(() -> testsAreTold(tests));
        end();
    }

    private static List<String> testNames() throws IOException {
        List<String> names = new ArrayList<>();
        try (Stream<Path> files = Files.list(TESTS)) {
            files.map(file -> file.getFileName().toString()).filter(name -> name.endsWith(".java"))
                    .forEach(name -> names.add(name.replace(".java", "")));
        }
        return names;
    }

    private static List<Method> face() {
        List<Method> open = new ArrayList<>();
        for (Method m : ColumnForms.class.getDeclaredMethods()) {
            if (Modifier.isPublic(m.getModifiers())) {
                open.add(m);
            }
        }
        return open;
    }

    private static void exampleAnswersWhatItSays() {
        about("README, the example");
        String start = "```java\nColumnForms x = new ColumnForms();\n";
        int from = text.indexOf(start);
        int to = text.indexOf("```\n", from + start.length());
        due("there is an example", from >= 0 && to >= 0 ? 1 : 0, 1);
        if (from < 0 || to < 0) {
            return;
        }
        ColumnForms x = new ColumnForms();
        Set<String> shown = new TreeSet<>();
        for (String line : text.substring(from + start.length(), to).split("\n")) {
            Matcher parts = EXAMPLE.matcher(line);
            if (parts.matches()) {
                shown.add(parts.group(1));
                dueText(line, parts.group(3), answer(x, parts.group(1), parts.group(2)));
            } else {
                dueText("a line of the example", line, "x.call(..);  // answer: why");
            }
        }
        for (Method m : face()) {
            due("the example shows " + m.getName(), shown.contains(m.getName()) ? 1 : 0, 1);
        }
    }

    /** What a call that is written in the example answers, in the example's own words. */
    private static String answer(ColumnForms x, String name, String written) {
        String[] words = written.isEmpty() ? new String[0] : written.split(", ");
        for (Method m : face()) {
            if (m.getName().equals(name) && m.getParameterCount() == words.length) {
                return answer(x, m, words);
            }
        }
        return "no such call";
    }

    private static String answer(ColumnForms x, Method m, String[] words) {
        Object[] arguments = new Object[words.length];
        for (int i = 0; i < words.length; i++) {
            if (m.getParameterTypes()[i] == int.class) {
                arguments[i] = Integer.valueOf(words[i]);
            } else {
                arguments[i] = Long.valueOf(words[i]);
            }
        }
        try {
            return "" + m.invoke(x, arguments);
        } catch (InvocationTargetException e) {
            return "throws " + e.getCause().getClass().getSimpleName();
        } catch (IllegalAccessException e) {
            return "no access";
        }
    }

    private static void eachCallIsTold() {
        about("README, each call");
        for (Method m : face()) {
            StringBuilder head = new StringBuilder("- `" + m.getReturnType() + " " + m.getName() + "\\(");
            String between = "";
            for (Class<?> type : m.getParameterTypes()) {
                head.append(between).append(type).append(" \\w+");
                between = ", ";
            }
            List<String> declared = new ArrayList<>();
            for (Class<?> type : m.getExceptionTypes()) {
                declared.add(type.getSimpleName());
            }
            dueText(m.getName() + " and its exceptions", told(head + "\\)`: "), declared.toString());
        }
        dueText("the constructor", told("- `ColumnForms\\(\\)`: "), "[]");
        dueText("NONE", told("- `int NONE`: " + ColumnForms.NONE), "[]");
    }

    /** The exceptions that are named in the one item of the list that begins so. */
    private static String told(String head) {
        Matcher item = Pattern.compile("^" + head + ".*(\n  .*)*", Pattern.MULTILINE).matcher(text);
        if (!item.find()) {
            return "not told";
        }
        List<String> named = new ArrayList<>();
        Matcher exception = EXCEPTION.matcher(item.group());
        while (exception.find()) {
            named.add(exception.group(1));
        }
        return item.find() ? "told twice" : named.toString();
    }

    private static void testsAreTold(List<String> tests) {
        about("README, how to run the tests");
        due(".ci/run is told", text.contains("\n    .ci/run\n") ? 1 : 0, 1);
        for (String name : tests) {
            due(name + " is told", text.contains("\n- `" + name + "`: ") ? 1 : 0, 1);
        }
    }
}
