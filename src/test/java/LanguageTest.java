import java.lang.reflect.Field;
import java.lang.reflect.Method;
import java.lang.reflect.Modifier;
import java.nio.file.Files;
import java.nio.file.Path;
import java.util.ArrayList;
import java.util.Arrays;
import java.util.List;
import java.util.Set;
import java.util.TreeSet;
import java.util.regex.Matcher;
import java.util.regex.Pattern;

/**
 * The rules of LANGUAGE.md that can be seen in the program's text or in its classes. Where the
 * program needs less than a rule leaves it, the test holds it to what it needs. It is run in the
 * project's directory.
 */
public final class LanguageTest {
    private static final Path PROGRAM = Path.of("src/main/java/CodedGroups.java");
    private static final Set<String> LIBRARY = Set.of("Math.min", "Math.floorMod", "Integer.bitCount", "System.arraycopy");
    private static final Check CHECK = new Check();

    public static void main(String[] args) throws Exception {
        String code = Files.readString(PROGRAM).replaceAll("(?s)/\\*.*?\\*/", "").replaceAll("//[^\n]*", "");
        List<Class<?>> classes = new ArrayList<>(Arrays.asList(CodedGroups.class.getDeclaredClasses()));
        classes.add(CodedGroups.class);
        namesOfMethods(classes);
        wordsThatAreNotUsed(code);
        libraryIsTheListed(code);
        staticFieldsAreConstants(classes);
        sizesOfClasses(classes);
        sizesOfMethods(code);
        objectsAreMadeInFieldsAlone(code);
        CHECK.end();
    }

    // rule 1: "No private method bears the name of a public one"
    private static void namesOfMethods(List<Class<?>> classes) {
        Set<String> face = new TreeSet<>();
        for (Method m : CodedGroups.class.getDeclaredMethods()) {
            if (Modifier.isPublic(m.getModifiers())) {
                face.add(m.getName());
            }
        }
        for (Class<?> one : classes) {
            for (Method m : one.getDeclaredMethods()) {
                boolean publicOne = Modifier.isPublic(m.getModifiers());
                CHECK.due(m + " has a name of its own", publicOne || !face.contains(m.getName()), true);
            }
        }
    }

    // rules 1, 2, 5, 6, 7, 9, 10 and 13
    private static void wordsThatAreNotUsed(String code) {
        String[] words = {
            "package", "import", "throw", "throws", "try", "catch", "finally", "assert", "synchronized", "while", "do",
            "double", "float", "instanceof", "native", "volatile", "String", "Object", "Exception"
        };
        for (String word : words) {
            CHECK.due("the word " + word, Pattern.compile("\\b" + word + "\\b").matcher(code).find(), false);
        }
        String[] signs = {"->", "::", "@", "\""};
        for (String sign : signs) {
            CHECK.due("the sign " + sign, code.contains(sign), false);
        }
        CHECK.due("a block of static", Pattern.compile("static\\s*\\{").matcher(code).find(), false);
    }

    // rule 4
    private static void libraryIsTheListed(String code) {
        Matcher call = Pattern.compile("\\b([A-Z]\\w*)\\.(\\w+)\\(").matcher(code);
        while (call.find()) {
            boolean own = call.group(1).equals("Code");
            String name = call.group(1) + "." + call.group(2);
            CHECK.due(name + " is listed", own || LIBRARY.contains(name), true);
        }
    }

    // rule 5
    private static void staticFieldsAreConstants(List<Class<?>> classes) {
        for (Class<?> one : classes) {
            for (Field f : one.getDeclaredFields()) {
                if (Modifier.isStatic(f.getModifiers())) {
                    boolean plain = f.getType() == int.class || f.getType() == int[].class;
                    CHECK.due(f + " is a constant", plain && Modifier.isFinal(f.getModifiers()), true);
                }
            }
        }
    }

    // rule 11: twelve classes, twenty fields, seven parameters
    private static void sizesOfClasses(List<Class<?>> classes) {
        CHECK.due("classes", classes.size() <= 12, true);
        for (Class<?> one : classes) {
            long fields = Arrays.stream(one.getDeclaredFields()).filter(f -> !Modifier.isStatic(f.getModifiers())).count();
            CHECK.due("fields of " + one, fields <= 20, true);
            for (Method m : one.getDeclaredMethods()) {
                CHECK.due("parameters of " + m, m.getParameterCount() <= 7, true);
            }
        }
    }

    // rule 11: "Methods stay short (some sixty lines)"; the program's are half as long
    private static void sizesOfMethods(String code) {
        Matcher method = Pattern.compile("(?m)^( +)[\\w \\[\\]]+\\([^;{}]*\\) \\{\n(?s:(.*?))^\\1\\}").matcher(code);
        int methods = 0;
        while (method.find()) {
            methods++;
            int lines = method.group(2).split("\n").length;
            CHECK.due("lines of a method: " + method.group().split("\n")[0].trim(), lines <= 30, true);
        }
        CHECK.due("methods are found", methods > 50, true);
    }

    // rule 12, held closer: what is made is made with the object, and no call makes more
    private static void objectsAreMadeInFieldsAlone(String code) {
        for (String line : code.split("\n")) {
            boolean field = line.matches(" +private final [\\w\\[\\]]+ \\w+ = new .*;");
            CHECK.due("new in a field alone: " + line.trim(), field || !line.matches(".*\\bnew\\b.*"), true);
        }
    }
}
