import java.lang.reflect.Method;
import java.lang.reflect.Modifier;
import java.nio.file.Files;
import java.nio.file.Path;
import java.util.Arrays;
import java.util.TreeSet;
import java.util.regex.Matcher;
import java.util.regex.Pattern;

/** What README.md says of the class and of the tests is so. It is run in the project's directory. */
public final class ReadmeTest {
    private static final Pattern CALL = Pattern.compile("x\\.(\\w+)\\((.*?)\\);\\s+// (-?\\d+|true|false)\\b.*");
    private static final Check CHECK = new Check();

    public static void main(String[] args) throws Exception {
        String text = Files.readString(Path.of("README.md"));
        example(text);
        everyCallIsInTheTable(text);
        everyClassInsideIsNamed(text);
        everyTestIsNamed(text);
        CHECK.due("README.md names .ci/run", text.contains("```sh\n.ci/run\n```"), true);
        CHECK.due(".ci/run can be run", Files.isExecutable(Path.of(".ci/run")), true);
        CHECK.end();
    }

    /** Each line of the example is a call with its answer behind it. */
    private static void example(String text) throws Exception {
        String[] lines = between(text, "```java\n", "```").split("\n");
        CHECK.due("the example makes an object", lines[0].equals("CodedGroups x = new CodedGroups();"), true);
        CodedGroups x = new CodedGroups();
        for (int i = 1; i < lines.length; i++) {
            Matcher call = CALL.matcher(lines[i]);
            CHECK.due("a call with its answer: " + lines[i], call.matches(), true);
            if (call.matches()) {
                String got = String.valueOf(answer(x, call.group(1), call.group(2)));
                CHECK.due(lines[i] + " answered " + got, got.equals(call.group(3)), true);
            }
        }
    }

    private static Object answer(CodedGroups x, String name, String arguments) throws Exception {
        String[] texts = arguments.isEmpty() ? new String[0] : arguments.split(", ");
        Method method = method(name);
        Object[] values = new Object[texts.length];
        for (int i = 0; i < texts.length; i++) {
            boolean truth = method.getParameterTypes()[i] == boolean.class;
            values[i] = truth ? (Object) Boolean.valueOf(texts[i]) : (Object) Integer.valueOf(texts[i]);
        }
        return method.invoke(x, values);
    }

    private static Method method(String name) {
        return Arrays.stream(CodedGroups.class.getDeclaredMethods())
            .filter(m -> Modifier.isPublic(m.getModifiers()) && m.getName().equals(name))
            .findFirst().orElseThrow();
    }

    private static String between(String text, String before, String behind) {
        int from = text.indexOf(before) + before.length();
        return text.substring(from, text.indexOf(behind, from));
    }

    private static void same(String what, TreeSet<String> got, TreeSet<String> want) {
        if (!got.equals(want)) {
            System.out.println(what + ": README.md has " + got + ", there are " + want);
        }
        CHECK.due(what, got.equals(want), true);
    }

    private static TreeSet<String> found(String text, String pattern) {
        TreeSet<String> names = new TreeSet<>();
        Matcher one = Pattern.compile(pattern).matcher(text);
        while (one.find()) {
            names.add(one.group(1));
        }
        return names;
    }

    private static void everyCallIsInTheTable(String text) {
        TreeSet<String> calls = new TreeSet<>();
        for (Method m : CodedGroups.class.getDeclaredMethods()) {
            if (Modifier.isPublic(m.getModifiers())) {
                calls.add(m.getName() + "/" + m.getParameterCount());
            }
        }
        TreeSet<String> table = new TreeSet<>();
        Matcher row = Pattern.compile("\n\\| `(\\w+)\\((.*?)\\)`").matcher(text);
        while (row.find()) {
            int parameters = row.group(2).isEmpty() ? 0 : row.group(2).split(", ").length;
            table.add(row.group(1) + "/" + parameters);
        }
        same("the table of calls", table, calls);
    }

    private static void everyClassInsideIsNamed(String text) {
        TreeSet<String> inside = new TreeSet<>();
        for (Class<?> one : CodedGroups.class.getDeclaredClasses()) {
            inside.add(one.getSimpleName());
        }
        String built = between(text, "## How it is built", "\n## ");
        same("the classes inside", found(built, "`(\\w+)`"), inside);
    }

    private static void everyTestIsNamed(String text) throws Exception {
        TreeSet<String> files = new TreeSet<>();
        try (var paths = Files.list(Path.of("src/test/java"))) {
            paths.forEach(p -> files.add(p.getFileName().toString().replace(".java", "")));
        }
        String tests = text.substring(text.indexOf("## How to run the tests"));
        same("the tests and what helps them", found(tests, "`([A-Z]\\w+)`"), withTest(files));
    }

    /** "Test" stands in the text by itself, as the end of a test's name. */
    private static TreeSet<String> withTest(TreeSet<String> files) {
        TreeSet<String> all = new TreeSet<>(files);
        all.add("Test");
        return all;
    }
}
