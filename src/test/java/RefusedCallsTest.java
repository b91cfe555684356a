import java.util.ArrayList;
import java.util.LinkedHashMap;
import java.util.List;
import java.util.Map;
import java.util.function.Consumer;
import java.util.function.Predicate;

/**
 * A refused call, and a question, leave everything as it was: in scenes of many kinds the object
 * is the same with such a call and without, at once and behind what comes later.
 */
public final class RefusedCallsTest {
    private static final int MIN = Integer.MIN_VALUE;
    private static final int MAX = Integer.MAX_VALUE;
    private static final Check CHECK = new Check();

    /** What brings to light what no question tells: bits of a group that is not whole, the row of good ones, the tape. */
    private static final List<Consumer<Run>> LATER = List.of(
        x -> { },
        x -> x.take(1),
        x -> x.take(10),
        x -> x.take(25),
        x -> {
            x.take(8000);
            x.frame();
        },
        x -> {
            x.take(8000);
            x.frame();
            x.take(8000);
            x.idles(3);
            x.take(8000);
        });

    public static void main(String[] args) {
        for (Map.Entry<String, Consumer<Run>> scene : scenes().entrySet()) {
            refusedBy(scene.getKey(), scene.getValue(), wrongNumbers());
            refusedBy(scene.getKey(), scene.getValue(), questions());
        }
        fullLine();
        nearlyFullLine();
        fullTape();
        emptyLine();
        takeOfNothing();
        CHECK.end();
    }

    private static List<List<String>> statesLater(Consumer<Run> made) {
        List<List<String>> states = new ArrayList<>();
        for (Consumer<Run> later : LATER) {
            states.add(State.of(CHECK, made.andThen(later)));
        }
        return states;
    }

    /** A call's predicate tells whether it was answered as due. */
    private static void refusedBy(String scene, Consumer<Run> made, Map<String, Predicate<Run>> calls) {
        List<List<String>> want = statesLater(made);
        for (Map.Entry<String, Predicate<Run>> call : calls.entrySet()) {
            String what = scene + ": " + call.getKey();
            Consumer<Run> with = made.andThen(x -> CHECK.due(what, call.getValue().test(x), true));
            List<List<String>> got = statesLater(with);
            for (int i = 0; i < want.size(); i++) {
                State.same(CHECK, what + " leaves all as it was, later " + i, got.get(i), want.get(i));
            }
        }
    }

    private static Map<String, Consumer<Run>> scenes() {
        Map<String, Consumer<Run>> scenes = new LinkedHashMap<>();
        scenes.put("a new object", x -> { });
        scenes.put("a part of a comma taken", x -> {
            x.feeds(2, 40).bits("01 0011111010 0101");
            x.take(11);
        });
        scenes.put("at level 2", x -> {
            x.feeds(1, 40).idles(3);
            x.take(34);
        });
        scenes.put("in step, a frame open", RefusedCallsTest::frameOpen);
        scenes.put("in step, a frame closed", x -> {
            x.idles(3).feeds(3, 10).frame();
            x.feeds(2, 20).idles(2);
            x.take(60 + 55);
        });
        scenes.put("searching again", x -> {
            x.idles(3).feeds(3, 10).frame();
            x.feeds(2, 20).bad(4).bits("0011111").idles(4);
            x.take(60 + 60 + 40 + 6);
        });
        return scenes;
    }

    /** A whole frame, a broken one, an open one; trust 3, three good ones in a row, five bits of a fourth. */
    private static void frameOpen(Run x) {
        x.idles(3).feeds(3, 10).frame();
        x.sign(251).plain(9).sign(254).bad().sign(251).plain(200, 201);
        x.take(60 + 60 + 70);
        x.feeds(4, 30).plain(32, 202).idles(2);
        x.take(5);
        CHECK.due("trust() in the scene", x.trust(), 3);
        CHECK.due("count(5) in the scene", x.count(5), 2);
        CHECK.due("disparity(1) in the scene", x.disparity(1), 1);
    }

    private static Map<String, Predicate<Run>> wrongNumbers() {
        Map<String, Predicate<Run>> calls = new LinkedHashMap<>();
        for (int v : new int[] {-1, 256, 188 + 256, 188 - 256, MIN, MAX}) {
            calls.put("send(" + v + ", false)", x -> x.send(v, false) == -1);
            calls.put("send(" + v + ", true)", x -> x.send(v, true) == -1);
        }
        for (int v : new int[] {0, 27, 29, 219, 246, 248, 250, 255}) {
            calls.put("send(" + v + ", true)", x -> x.send(v, true) == -1);
        }
        for (int b : new int[] {-1, 256, MIN, MAX}) {
            calls.put("feed(" + b + ")", x -> !x.feed(b));
        }
        for (int b : new int[] {-1, 2, MIN, MAX}) {
            calls.put("bit(" + b + ")", x -> !x.bit(b));
        }
        for (int i : new int[] {-1, 8000, MIN, MAX}) {
            calls.put("turn(" + i + ")", x -> !x.turn(i));
            calls.put("drop(" + i + ")", x -> !x.drop(i));
        }
        calls.put("turn behind the last", x -> !x.turn(x.size()));
        calls.put("drop behind the last", x -> !x.drop(x.size()));
        for (int n : new int[] {-1, 8001, MIN, MAX}) {
            calls.put("take(" + n + ")", x -> x.take(n) == -1);
        }
        return calls;
    }

    private static Map<String, Predicate<Run>> questions() {
        Map<String, Predicate<Run>> calls = new LinkedHashMap<>();
        for (int n : new int[] {-1, 8000, MIN, MAX}) {
            calls.put("line(" + n + ")", x -> x.line(n) == -1);
            calls.put("disparity(" + n + ")", x -> x.disparity(n) == 0);
            calls.put("symbol(" + n + ")", x -> x.symbol(n) == -1);
            calls.put("length(" + n + ")", x -> x.length(n) == -1);
            calls.put("whole(" + n + ")", x -> !x.whole(n));
            calls.put("at(" + n + ", 0)", x -> x.at(n, 0) == -1);
            calls.put("at(0, " + n + ")", x -> x.at(0, n) == -1);
            calls.put("decode(" + n + ", 1)", x -> x.decode(n, 1) == -1);
            calls.put("count(" + n + ")", x -> x.count(n) == -1);
        }
        calls.put("decode(341, 0)", x -> x.decode(341, 0) == -1);
        calls.put("decode of a bad group", x -> x.decode(0, -1) == -1);
        calls.put("decode of a good group", x -> x.decode(0b0011111010, -1) == 444);
        calls.put("decode of a group that leaves +", x -> x.decode(0b1001111001, -1) == 32);
        return calls;
    }

    private static Map<String, Predicate<Run>> withoutRoomForABit() {
        Map<String, Predicate<Run>> calls = new LinkedHashMap<>(withoutRoomForAGroup());
        calls.put("bit(0)", x -> !x.bit(0));
        calls.put("bit(1)", x -> !x.bit(1));
        calls.put("bit(2)", x -> !x.bit(2));
        return calls;
    }

    private static Map<String, Predicate<Run>> withoutRoomForAGroup() {
        Map<String, Predicate<Run>> calls = new LinkedHashMap<>(withoutRoomForTwoGroups());
        calls.put("send(32, false)", x -> x.send(32, false) == -1);
        calls.put("send(188, true)", x -> x.send(188, true) == -1);
        calls.put("send(256, false)", x -> x.send(256, false) == -1);
        return calls;
    }

    private static Map<String, Predicate<Run>> withoutRoomForTwoGroups() {
        Map<String, Predicate<Run>> calls = new LinkedHashMap<>(withoutRoomForAFrame());
        calls.put("idle()", x -> !x.idle());
        return calls;
    }

    private static Map<String, Predicate<Run>> withoutRoomForAFrame() {
        Map<String, Predicate<Run>> calls = new LinkedHashMap<>();
        calls.put("frame()", x -> x.frame() == -1);
        calls.put("frame() twice", x -> x.frame() == -1 && x.frame() == -1);
        return calls;
    }

    /** In step, a frame kept, half a group taken, so many bits on the line, three bytes on the tape. */
    private static Consumer<Run> withLineOf(int bits) {
        return x -> {
            x.idles(3).emptyFrames(1);
            x.take(8000);
            x.bits("01010").fill(bits);
            x.take(5);
            x.feeds(3, 60);
        };
    }

    // "no room" with 8000 bits
    private static void fullLine() {
        refusedBy("a full line", withLineOf(8000 - 5).andThen(x -> x.bits("01011")), withoutRoomForABit());
        refusedBy("a full line", withLineOf(8000 - 5).andThen(x -> x.bits("01011")), wrongNumbers());
    }

    // "no room" with a bit too few for what is to be sent
    private static void nearlyFullLine() {
        refusedBy("room for nine bits", withLineOf(7991), withoutRoomForAGroup());
        refusedBy("room for 19 bits", withLineOf(7981), withoutRoomForTwoGroups());
        refusedBy("room for 59 bits", withLineOf(7941), withoutRoomForAFrame());
        refusedBy("room for a group but not two", withLineOf(7990), withoutRoomForTwoGroups());
        refusedBy("room for a frame but for its last group", withLineOf(7950), withoutRoomForAFrame());
    }

    // feed: "no room"
    private static void fullTape() {
        Map<String, Predicate<Run>> calls = new LinkedHashMap<>();
        calls.put("feed(1)", x -> !x.feed(1));
        calls.put("feed(256)", x -> !x.feed(256));
        refusedBy("a full tape", x -> x.idles(2).feeds(400, 0), calls);
    }

    // turn and drop of an empty line
    private static void emptyLine() {
        Map<String, Predicate<Run>> calls = new LinkedHashMap<>();
        calls.put("turn(0)", x -> !x.turn(0));
        calls.put("drop(0)", x -> !x.drop(0));
        calls.put("line(0)", x -> x.line(0) == -1);
        calls.put("take(1)", x -> x.take(1) == 0);
        calls.put("take(8000)", x -> x.take(8000) == 0);
        refusedBy("an empty line at first", x -> { }, calls);
        refusedBy("an empty line behind what was taken", x -> {
            x.idles(3).feeds(2, 10).frame();
            x.sign(251).bits("01001");
            x.take(8000);
        }, calls);
    }

    // take(0) takes nothing, whatever is under way
    private static void takeOfNothing() {
        Map<String, Predicate<Run>> calls = new LinkedHashMap<>();
        calls.put("take(0)", x -> x.take(0) == 0);
        for (Map.Entry<String, Consumer<Run>> scene : scenes().entrySet()) {
            refusedBy(scene.getKey(), scene.getValue(), calls);
        }
    }
}
