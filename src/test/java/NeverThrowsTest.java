import java.lang.reflect.Array;
import java.lang.reflect.Field;
import java.lang.reflect.Modifier;
import java.util.Collections;
import java.util.IdentityHashMap;
import java.util.Random;
import java.util.Set;

/**
 * No call throws, whatever its arguments, in any state: behind the 512th call too, where its answer
 * is free. And what an object holds is what it was made with.
 */
public final class NeverThrowsTest {
    private static final int RUNS = 40;
    private static final int CALLS = 6000;
    private static final int[] WILD = {
        Integer.MIN_VALUE, Integer.MIN_VALUE + 1, -8001, -1024, -257, -256, -2, -1, 2, 3, 7, 8, 40, 41, 75, 99, 100,
        101, 255, 256, 299, 300, 301, 399, 400, 511, 512, 1023, 1024, 3074, 3075, 7999, 8000, 8001,
        Integer.MAX_VALUE - 1, Integer.MAX_VALUE
    };
    private static final int[] SIGNS = {188, 188, 188, 251, 251, 253, 247, 254, 28};
    private static final Check CHECK = new Check();

    public static void main(String[] args) throws Exception {
        for (int seed = 0; seed < RUNS; seed++) {
            CodedGroups x = new CodedGroups();
            Set<Object> made = held(x);
            CHECK.due("objects and arrays of a new object", made.size(), 12);
            int elements = elements(made);
            CHECK.due("some 11,700 elements, not " + elements, elements > 11_650 && elements < 11_750, true);
            CHECK.due("calls of run " + seed + " that threw", thrown(x, new Random(seed)), 0);
            Set<Object> then = held(x);
            CHECK.due("an object holds what it was made with", then.equals(made), true);
        }
        CHECK.end();
    }

    private static int thrown(CodedGroups x, Random random) {
        int thrown = 0;
        for (int i = 0; i < CALLS; i++) {
            try {
                anyCall(x, random);
            } catch (RuntimeException e) {
                e.printStackTrace(System.out);
                thrown++;
            }
        }
        return thrown;
    }

    private static int number(Random random, int below) {
        return random.nextInt(4) == 0 ? WILD[random.nextInt(WILD.length)] : random.nextInt(below);
    }

    private static void anyCall(CodedGroups x, Random random) {
        switch (random.nextInt(24)) {
            case 0: case 1: x.send(number(random, 256), random.nextInt(8) == 0); break;
            case 2: case 3: x.send(SIGNS[random.nextInt(SIGNS.length)], true); break;
            case 4: case 5: x.idle(); break;
            case 6: case 7: x.feed(number(random, 256)); break;
            case 8: x.frame(); break;
            case 9: x.bit(number(random, 2)); break;
            case 10: x.turn(number(random, 8000)); break;
            case 11: x.drop(number(random, 8000)); break;
            case 12: x.line(number(random, 8000)); break;
            case 13: x.size(); break;
            case 14: x.disparity(number(random, 3)); break;
            case 15: if (random.nextInt(8) == 0) { x.take(number(random, 8001)); } break;
            case 16: x.level(); break;
            case 17: x.trust(); break;
            case 18: x.symbol(number(random, 110)); break;
            case 19: x.length(number(random, 45)); break;
            case 20: x.whole(number(random, 45)); break;
            case 21: x.at(number(random, 45), number(random, 310)); break;
            case 22: x.decode(number(random, 1024), number(random, 3) - 1); break;
            default: x.count(number(random, 9)); break;
        }
    }

    /** The object and all that can be reached from it, each once. */
    private static Set<Object> held(CodedGroups x) throws IllegalAccessException {
        Set<Object> all = Collections.newSetFromMap(new IdentityHashMap<>());
        reach(x, all);
        return all;
    }

    private static void reach(Object one, Set<Object> all) throws IllegalAccessException {
        if (one == null || !all.add(one) || one.getClass().isArray()) {
            return;
        }
        for (Field f : one.getClass().getDeclaredFields()) {
            if (!Modifier.isStatic(f.getModifiers()) && !f.getType().isPrimitive()) {
                f.setAccessible(true);
                reach(f.get(one), all);
            }
        }
    }

    /** Fields and elements. */
    private static int elements(Set<Object> all) {
        int sum = 0;
        for (Object one : all) {
            sum += one.getClass().isArray() ? Array.getLength(one) : fields(one.getClass());
        }
        return sum;
    }

    private static int fields(Class<?> kind) {
        int own = 0;
        for (Field f : kind.getDeclaredFields()) {
            own += Modifier.isStatic(f.getModifiers()) ? 0 : 1;
        }
        return own;
    }
}
