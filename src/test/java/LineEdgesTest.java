import java.util.List;
import java.util.function.Consumer;

/**
 * The line at the edges that the document names (promises 1, 6 to 10 and 12): each test is one of
 * its sentences, looked at from both sides.
 */
public final class LineEdgesTest {
    /** What an empty frame is, each time that even many groups were sent before. */
    private static final String EMPTY_FRAME = "1101101000101110100011101010001110101000";
    private static final int MIN = Integer.MIN_VALUE;
    private static final int MAX = Integer.MAX_VALUE;
    private static final Check CHECK = new Check();

    public static void main(String[] args) {
        lineIsEmptyAtFirst();
        bitIs0Or1();
        bitNeedsRoom();
        turnOfNone();
        turnOfTheFirstAndTheLast();
        turnOnAFullLine();
        dropOfNone();
        dropOfTheFirstAndTheLast();
        dropOfTheOnlyOne();
        dropOnAFullLine();
        lineOfNone();
        lineOfTheFirstAndTheLast();
        sizeFrom0To8000();
        takeFrom0To8000();
        takeAsManyAsThereAre();
        takenBitsAreGone();
        takeOfAnEmptyLine();
        lineGoesOnBehindWhatWasTaken();
        turnAndDropBehindWhatWasTaken();
        call512IsTheLast();
        CHECK.end();
    }

    private static void due(String what, long got, long want) {
        CHECK.due(what, got, want);
    }

    private static void due(String what, boolean got, boolean want) {
        CHECK.due(what, got, want);
    }

    /** The line as a text, with as many objects as that takes. */
    private static void dueLine(String what, Consumer<Run> made, String want) {
        List<String> told = State.of(CHECK, made);
        boolean same = told.contains("line " + want) && told.contains("size " + want.length());
        if (!same) {
            System.out.println(what + ": due is " + want + ", the state is " + told);
        }
        due(what, same, true);
    }

    private static String filled(int bits) {
        String frames = EMPTY_FRAME.repeat(bits / 40);
        return frames + "01".repeat(20).substring(0, bits % 40);
    }

    private static String turned(String bits, int i) {
        return bits.substring(0, i) + (bits.charAt(i) == '0' ? '1' : '0') + bits.substring(i + 1);
    }

    private static String without(String bits, int i) {
        return bits.substring(0, i) + bits.substring(i + 1);
    }

    // "An empty line"
    private static void lineIsEmptyAtFirst() {
        Run x = new Run(CHECK);
        due("size() at first", x.size(), 0);
        due("line(0) at first", x.line(0), -1);
        due("line(-1) at first", x.line(-1), -1);
        x.bits("1");
        due("size() behind a bit", x.size(), 1);
        due("line(0) behind a bit", x.line(0), 1);
    }

    // "False: not 0 or 1"
    private static void bitIs0Or1() {
        Run x = new Run(CHECK);
        due("bit(-1)", x.bit(-1), false);
        due("bit(0)", x.bit(0), true);
        due("bit(1)", x.bit(1), true);
        due("bit(2)", x.bit(2), false);
        due("bit(MIN)", x.bit(MIN), false);
        due("bit(MAX)", x.bit(MAX), false);
        due("size() behind two that are bits", x.size(), 2);
        due("line(0)", x.line(0), 0);
        due("line(1)", x.line(1), 1);
    }

    // "8000 at most", "False: .. no room"
    private static void bitNeedsRoom() {
        for (int b = 0; b < 2; b++) {
            Run x = new Run(CHECK).fill(7999);
            due("bit(" + b + "), the 8000th", x.bit(b), true);
            due("bit(" + b + "), the 8001st", x.bit(b), false);
            due("bit(2) then", x.bit(2), false);
            due("size() then", x.size(), 8000);
            due("line(7999) then", x.line(7999), b);
            due("take(1)", x.take(1), 1);
            due("bit(" + b + ") behind one that was taken", x.bit(b), true);
            due("bit(" + b + ") behind that", x.bit(b), false);
        }
        dueLine("a full line with a bit refused", x -> x.fill(7999).bits("0").bit(1), filled(7999) + "0");
    }

    // turn, "False: none such"
    private static void turnOfNone() {
        Run x = new Run(CHECK);
        due("turn(0) of an empty line", x.turn(0), false);
        due("turn(-1) of an empty line", x.turn(-1), false);
        x.bits("10");
        due("turn(-1)", x.turn(-1), false);
        due("turn(2)", x.turn(2), false);
        due("turn(MIN)", x.turn(MIN), false);
        due("turn(MAX)", x.turn(MAX), false);
        due("line(0) stays", x.line(0), 1);
        due("line(1) stays", x.line(1), 0);
        due("take(1)", x.take(1), 1);
        due("turn(1) behind one that was taken", x.turn(1), false);
        due("turn(0) behind it", x.turn(0), true);
        due("line(0) is turned", x.line(0), 1);
    }

    // "Bit i of the line is turned", that one alone
    private static void turnOfTheFirstAndTheLast() {
        for (int i = 0; i < 5; i++) {
            int place = i;
            dueLine("turn(" + i + ")", x -> x.bits("10011").turn(place), turned("10011", i));
        }
        Run x = new Run(CHECK).bits("1");
        due("turn(0) of the only one", x.turn(0), true);
        due("line(0)", x.line(0), 0);
        due("turn(0) back", x.turn(0), true);
        due("line(0)", x.line(0), 1);
        due("turn(1)", x.turn(1), false);
    }

    private static void turnOnAFullLine() {
        Run x = new Run(CHECK).fill(8000);
        due("turn(7999) of 8000", x.turn(7999), true);
        due("turn(8000) of 8000", x.turn(8000), false);
        dueLine("turn(7999)", r -> r.fill(8000).turn(7999), turned(filled(8000), 7999));
        dueLine("turn(0)", r -> r.fill(8000).turn(0), turned(filled(8000), 0));
        Run y = new Run(CHECK).fill(7999);
        due("turn(7999) of 7999", y.turn(7999), false);
        due("turn(7998) of 7999", y.turn(7998), true);
        y.bits("0");
        due("line(7999): what was refused left no trace", y.line(7999), 0);
    }

    // drop, "False: none such"
    private static void dropOfNone() {
        Run x = new Run(CHECK);
        due("drop(0) of an empty line", x.drop(0), false);
        due("drop(-1) of an empty line", x.drop(-1), false);
        x.bits("10");
        due("drop(-1)", x.drop(-1), false);
        due("drop(2)", x.drop(2), false);
        due("drop(MIN)", x.drop(MIN), false);
        due("drop(MAX)", x.drop(MAX), false);
        due("size() stays", x.size(), 2);
        due("drop(1)", x.drop(1), true);
        due("drop(1), which is gone", x.drop(1), false);
        due("line(0)", x.line(0), 1);
    }

    // "Bit i of the line is left out", that one alone
    private static void dropOfTheFirstAndTheLast() {
        String bits = "100110101";
        for (int i = 0; i < bits.length(); i++) {
            int place = i;
            dueLine("drop(" + i + ")", x -> x.bits(bits).drop(place), without(bits, i));
        }
        dueLine("a bit behind those left", x -> {
            x.bits("110").drop(0);
            x.bits("1");
        }, "101");
    }

    private static void dropOfTheOnlyOne() {
        Run x = new Run(CHECK).bits("1");
        due("drop(0) of the only one", x.drop(0), true);
        due("size() then", x.size(), 0);
        due("line(0) then", x.line(0), -1);
        due("drop(0) of none", x.drop(0), false);
        due("turn(0) of none", x.turn(0), false);
        due("take(1) of none", x.take(1), 0);
    }

    private static void dropOnAFullLine() {
        int[] places = {0, 1, 4000, 7998, 7999};
        for (int i : places) {
            dueLine("drop(" + i + ") of 8000", x -> x.fill(8000).drop(i), without(filled(8000), i));
            Run x = new Run(CHECK).fill(8000);
            due("drop(" + i + ")", x.drop(i), true);
            due("drop(7999) of 7999", x.drop(7999), false);
            due("bit(1) with room for one", x.bit(1), true);
            due("bit(1) with no room", x.bit(1), false);
        }
        Run x = new Run(CHECK).fill(8000);
        due("drop(8000) of 8000", x.drop(8000), false);
        due("bit(1): it left no room", x.bit(1), false);
    }

    // line, "NONE: none such"
    private static void lineOfNone() {
        Run x = new Run(CHECK);
        due("line(0) of an empty line", x.line(0), -1);
        x.bits("0");
        due("line(-1)", x.line(-1), -1);
        due("line(0)", x.line(0), 0);
        due("line(1)", x.line(1), -1);
        due("line(MIN)", x.line(MIN), -1);
        due("line(MAX)", x.line(MAX), -1);
        due("drop(0)", x.drop(0), true);
        due("line(0), which is gone", x.line(0), -1);
        due("line(7999)", x.line(7999), -1);
    }

    private static void lineOfTheFirstAndTheLast() {
        Run x = new Run(CHECK).bits("0").fill(7960).bits("1");
        due("line(0)", x.line(0), 0);
        due("line(1)", x.line(1), 1);
        due("line(7960)", x.line(7960), 0);
        due("line(7961)", x.line(7961), 1);
        due("line(7962)", x.line(7962), -1);
        Run full = new Run(CHECK).fill(8000);
        due("line(7999) of 8000", full.line(7999), 0);
        due("line(8000) of 8000", full.line(8000), -1);
    }

    // "How many bits the line has"
    private static void sizeFrom0To8000() {
        due("size() of none", new Run(CHECK).size(), 0);
        due("size() of 7999", new Run(CHECK).fill(7999).size(), 7999);
        Run x = new Run(CHECK).fill(8000);
        due("size() of 8000", x.size(), 8000);
        x.bit(0);
        x.send(74, false);
        x.idle();
        x.frame();
        due("size() of a full line, whatever comes", x.size(), 8000);
        due("take(8000)", x.take(8000), 8000);
        due("size() of none again", x.size(), 0);
    }

    // "so many bits (0 .. 8000)", "NONE: not such"
    private static void takeFrom0To8000() {
        Run x = new Run(CHECK).fill(8000);
        due("take(-1)", x.take(-1), -1);
        due("take(8001)", x.take(8001), -1);
        due("take(MIN)", x.take(MIN), -1);
        due("take(MAX)", x.take(MAX), -1);
        due("size() behind what was refused", x.size(), 8000);
        due("take(0)", x.take(0), 0);
        due("size() behind take(0)", x.size(), 8000);
        due("take(1)", x.take(1), 1);
        due("size() behind take(1)", x.size(), 7999);
        Run full = new Run(CHECK).fill(8000);
        due("take(8000) of 8000", full.take(8000), 8000);
        due("size() behind it", full.size(), 0);
        Run one = new Run(CHECK).fill(8000);
        due("take(7999) of 8000", one.take(7999), 7999);
        due("size() behind it", one.size(), 1);
    }

    // "as many as there are at most: how many"
    private static void takeAsManyAsThereAre() {
        for (int n = 4; n <= 6; n++) {
            Run x = new Run(CHECK).bits("10110");
            due("take(" + n + ") of five", x.take(n), Math.min(n, 5));
            due("size() behind it", x.size(), 5 - Math.min(n, 5));
        }
        due("take(8000) of five", new Run(CHECK).bits("10110").take(8000), 5);
        due("take(8001) of five", new Run(CHECK).bits("10110").take(8001), -1);
        due("take(8000) of 7999", new Run(CHECK).fill(7999).take(8000), 7999);
        due("take(7999) of 7999", new Run(CHECK).fill(7999).take(7999), 7999);
    }

    // "takes bits from the line's front (they are gone then)"
    private static void takenBitsAreGone() {
        String bits = "1001101011100";
        for (int n = 0; n <= bits.length(); n++) {
            int many = n;
            dueLine("take(" + n + ")", x -> x.bits(bits).take(many), bits.substring(n));
        }
        dueLine("take(-1)", x -> x.bits(bits).take(-1), bits);
        dueLine("take(8001)", x -> x.bits(bits).take(8001), bits);
    }

    private static void takeOfAnEmptyLine() {
        Run x = new Run(CHECK);
        due("take(0) of none", x.take(0), 0);
        due("take(1) of none", x.take(1), 0);
        due("take(8000) of none", x.take(8000), 0);
        due("take(8001) of none", x.take(8001), -1);
        due("take(-1) of none", x.take(-1), -1);
        due("size() of none", x.size(), 0);
        due("count(1) of none", x.count(1), 0);
    }

    // a line of 8000 that goes on behind bits that were taken: each keeps its place in the order
    private static void lineGoesOnBehindWhatWasTaken() {
        dueLine("8000 behind 5013 that were taken", LineEdgesTest::wrapped, wrappedBits());
        Run x = new Run(CHECK);
        wrapped(x);
        due("bit(1) on the full line", x.bit(1), false);
        due("line(8000)", x.line(8000), -1);
        dueLine("3 of them left", r -> {
            wrapped(r);
            r.take(7997);
        }, wrappedBits().substring(7997));
    }

    private static void wrapped(Run x) {
        x.fill(8000);
        x.take(5013);
        x.emptyFrames(125).bits("1110001010011");
    }

    private static String wrappedBits() {
        return filled(8000).substring(5013) + filled(5000) + "1110001010011";
    }

    private static void turnAndDropBehindWhatWasTaken() {
        int[] places = {0, 2986, 2987, 2988, 7999};
        for (int i : places) {
            dueLine("turn(" + i + ") behind what was taken", x -> {
                wrapped(x);
                x.turn(i);
            }, turned(wrappedBits(), i));
            dueLine("drop(" + i + ") behind what was taken", x -> {
                wrapped(x);
                x.drop(i);
            }, without(wrappedBits(), i));
        }
    }

    // "An object is used for at most 512 calls"
    private static void call512IsTheLast() {
        Run x = new Run(CHECK).bits("1".repeat(510));
        due("size(), the 511th call", x.size(), 510);
        due("line(509), the 512th call", x.line(509), 1);
        due("calls left", x.callsLeft(), 0);
    }
}
