import java.lang.reflect.Constructor;
import java.lang.reflect.Field;
import java.lang.reflect.Method;
import java.lang.reflect.Modifier;
import java.util.Arrays;
import java.util.TreeSet;

/** The public face is the document's, and nothing else of the class can be seen. */
public final class FaceTest {
    private static final String METHODS = "int send(int,boolean); boolean idle(); boolean feed(int); int frame();"
        + " boolean bit(int); boolean turn(int); boolean drop(int); int line(int); int size(); int disparity(int);"
        + " int take(int); int level(); int trust(); int symbol(int); int length(int); boolean whole(int);"
        + " int at(int,int); int decode(int,int); int count(int)";
    private static final Check CHECK = new Check();

    public static void main(String[] args) throws Exception {
        Class<?> face = CodedGroups.class;
        CHECK.due("final", Modifier.isFinal(face.getModifiers()), true);
        CHECK.due("public", Modifier.isPublic(face.getModifiers()), true);
        CHECK.due("NONE", CodedGroups.NONE, -1);
        methods(face);
        fields(face);
        Constructor<?>[] made = face.getDeclaredConstructors();
        CHECK.due("constructors", made.length, 1);
        CHECK.due("public constructor", Modifier.isPublic(made[0].getModifiers()), true);
        CHECK.due("constructor's parameters", made[0].getParameterCount(), 0);
        for (Class<?> inside : face.getDeclaredClasses()) {
            CHECK.due(inside + " static", Modifier.isStatic(inside.getModifiers()), true);
            CHECK.due(inside + " unseen", seenOutside(inside.getModifiers()), false);
        }
        CHECK.end();
    }

    private static boolean seenOutside(int modifiers) {
        return Modifier.isPublic(modifiers) || Modifier.isProtected(modifiers);
    }

    private static void methods(Class<?> face) {
        TreeSet<String> want = new TreeSet<>(Arrays.asList(METHODS.split("; ")));
        TreeSet<String> got = new TreeSet<>();
        for (Method m : face.getDeclaredMethods()) {
            if (Modifier.isPrivate(m.getModifiers())) {
                continue;
            }
            CHECK.due(m + " public", Modifier.isPublic(m.getModifiers()), true);
            CHECK.due(m + " static", Modifier.isStatic(m.getModifiers()), false);
            String types = Arrays.toString(m.getParameterTypes()).replaceAll("[\\[\\] ]", "");
            got.add(m.getReturnType() + " " + m.getName() + "(" + types + ")");
        }
        if (!got.equals(want)) {
            System.out.println("methods are " + got);
        }
        CHECK.due("methods as the document has them", got.equals(want), true);
    }

    private static void fields(Class<?> face) {
        for (Field f : face.getDeclaredFields()) {
            boolean hidden = Modifier.isPrivate(f.getModifiers());
            CHECK.due(f + " private or NONE", hidden || f.getName().equals("NONE"), true);
        }
    }
}
