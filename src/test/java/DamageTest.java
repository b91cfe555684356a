/**
 * What damage to the line does at the receiver: bits that are turned, left out, or put in between,
 * followed by hand through groups, trust and frames.
 */
public final class DamageTest {
    private static final Check CHECK = new Check();

    public static void main(String[] args) {
        turnedBitMakesABadGroup();
        turnedBitMakesAnotherSymbol();
        turnedBackBitDoesNothing();
        turnedBitOfAGroupInTwoTakes();
        droppedBitOfAGroupInTwoTakes();
        turnedBitBreaksItsFrameAlone();
        droppedBitIsFoundAgain();
        moreBitsAreFoundAgain();
        tenBitsDroppedTurnThePlaces();
        tenBitsMoreTurnThePlaces();
        droppedBitEndsTheFrame();
        turnedCommaIsNone();
        bitsAsGroupsAreAsGoodAsSentOnes();
        CHECK.end();
    }

    private static void due(String what, long got, long want) {
        CHECK.due(what, got, want);
    }

    private static void due(String what, boolean got, boolean want) {
        CHECK.due(what, got, want);
    }

    private static Run inStep() {
        return Run.inStep(CHECK);
    }

    // 0101010101 with - becomes 0100010101, whose six is one of + alone
    private static void turnedBitMakesABadGroup() {
        Run x = inStep().good(1);
        due("turn(3)", x.turn(3), true);
        x.takeAll();
        due("symbol(0)", x.symbol(0), 512);
        due("trust()", x.trust(), 3);
        due("count(2)", x.count(2), 1);
        due("disparity(1) behind 010001 0101", x.disparity(1), -1);
    }

    // 0101010101 with - becomes 1101010101, which is 68; the fault shows with the next group that leans
    private static void turnedBitMakesAnotherSymbol() {
        Run x = inStep().good(1).plain(32, 32);
        due("turn(0)", x.turn(0), true);
        x.take(10);
        due("symbol(0)", x.symbol(0), 68);
        due("trust()", x.trust(), 4);
        due("disparity(1)", x.disparity(1), 1);
        x.take(10);
        due("symbol(0): 100111 1001 with +", x.symbol(0), 512);
        due("trust()", x.trust(), 3);
        x.take(10);
        due("symbol(0): 011000 1001 with +", x.symbol(0), 32);
        due("trust()", x.trust(), 3);
        due("disparity(1)", x.disparity(1), -1);
    }

    private static void turnedBackBitDoesNothing() {
        Run x = inStep().good(1);
        due("turn(3)", x.turn(3), true);
        due("turn(3) back", x.turn(3), true);
        x.takeAll();
        due("symbol(0)", x.symbol(0), 74);
        due("trust()", x.trust(), 4);
    }

    // bit 0 is the line's first, though it is the sixth of its group
    private static void turnedBitOfAGroupInTwoTakes() {
        Run x = inStep().good(1);
        x.take(5);
        due("turn(0)", x.turn(0), true);
        x.takeAll();
        due("symbol(0): 010100 0101 with -", x.symbol(0), 512);
        Run y = inStep().plain(10);
        y.take(6);
        due("turn(0): 1011 becomes 0011", y.turn(0), true);
        y.takeAll();
        due("symbol(0): 010101 0011 with -", y.symbol(0), 512);
        due("disparity(1) behind 0011", y.disparity(1), 1);
    }

    private static void droppedBitOfAGroupInTwoTakes() {
        Run x = inStep().bits("01010 1 10101");
        x.take(5);
        due("drop(0)", x.drop(0), true);
        x.takeAll();
        due("symbol(0)", x.symbol(0), 74);
        due("trust()", x.trust(), 4);
        due("count(1)", x.count(1), 7);
    }

    // the byte 74 becomes 68; then 253 is bad with +, and 247 ends the frame that is not closed
    private static void turnedBitBreaksItsFrameAlone() {
        Run x = inStep();
        for (int n = 0; n < 3; n++) {
            due("feed", x.feed(74) && x.feed(74) && x.feed(74), true);
            due("frame()", x.frame(), 6);
        }
        due("turn(70)", x.turn(70), true);
        x.takeAll();
        due("count(5)", x.count(5), 3);
        due("count(6)", x.count(6), 2);
        boolean[] wholes = {true, false, true};
        for (int k = 0; k < 3; k++) {
            due("length(" + k + ")", x.length(k), 3);
            due("whole(" + k + ")", x.whole(k), wholes[k]);
            due("at(" + k + ", 0)", x.at(k, 0), k == 1 ? 68 : 74);
            due("at(" + k + ", 2)", x.at(k, 2), 74);
        }
        due("count(2): the close", x.count(2), 1);
        due("trust(): the fourth good one gave it back", x.trust(), 4);
    }

    /** Levels behind takes of so many bits each, in a line of idles that has been damaged. */
    private static void dueLevels(String what, Run x, int[] takes, int[] levels) {
        for (int i = 0; i < takes.length; i++) {
            due(what + ": take", x.take(takes[i]), takes[i]);
            due(what + ": level() behind take " + i, x.level(), levels[i]);
        }
        due(what + ": count(3)", x.count(3), 1);
        due(what + ": trust()", x.trust(), 4);
    }

    // idle is 00111110101001000101, over and over: without its first bit no group is one
    private static void droppedBitIsFoundAgain() {
        Run x = inStep().idles(12);
        due("drop(0)", x.drop(0), true);
        int[] takes = {39, 1, 28, 1, 19, 1, 19, 1};
        int[] levels = {3, 0, 0, 1, 1, 2, 2, 3};
        dueLevels("a bit left out", x, takes, levels);
        due("count(1)", x.count(1), 6 + 4 + 5);
        due("count(2)", x.count(2), 4);
        due("count(7)", x.count(7), 1 + 4);
    }

    private static void moreBitsAreFoundAgain() {
        Run x = inStep().bits("0").idles(12);
        int[] takes = {39, 1, 10, 1, 19, 1, 19, 1};
        int[] levels = {3, 0, 0, 1, 1, 2, 2, 3};
        dueLevels("a bit put in between", x, takes, levels);
        due("count(1)", x.count(1), 6 + 4 + 5);
        due("count(2)", x.count(2), 4);
    }

    // the groups are good ones still, but their commas are at odd places
    private static void tenBitsDroppedTurnThePlaces() {
        Run x = inStep().good(2).idles(6);
        for (int i = 0; i < 10; i++) {
            due("drop(5)", x.drop(5), true);
        }
        dueCommasAtOddPlaces(x);
    }

    private static void tenBitsMoreTurnThePlaces() {
        dueCommasAtOddPlaces(inStep().bits("0101010101").idles(6));
    }

    /** One group, then idles: their fourth comma is one too many, the fifth is a first group. */
    private static void dueCommasAtOddPlaces(Run x) {
        int[] takes = {10, 10, 20, 20, 20, 20, 20};
        int[] trusts = {4, 3, 2, 1, 0, 0, 0};
        int[] levels = {3, 3, 3, 3, 0, 1, 2};
        for (int i = 0; i < takes.length; i++) {
            due("take", x.take(takes[i]), takes[i]);
            due("trust() behind take " + i, x.trust(), trusts[i]);
            due("level() behind take " + i, x.level(), levels[i]);
        }
        due("count(2): all are good", x.count(2), 0);
        due("count(3)", x.count(3), 1);
    }

    private static void droppedBitEndsTheFrame() {
        Run x = inStep().feeds(3, 0);
        due("frame()", x.frame(), 6);
        x.idles(12);
        due("drop(15)", x.drop(15), true);
        x.takeAll();
        due("level()", x.level(), 3);
        due("count(3)", x.count(3), 1);
        due("count(5)", x.count(5), 1);
        due("whole(0)", x.whole(0), false);
        x.feeds(3, 9).frame();
        x.takeAll();
        due("count(5)", x.count(5), 2);
        due("whole(1)", x.whole(1), true);
        due("at(1, 2)", x.at(1, 2), 11);
    }

    private static void turnedCommaIsNone() {
        Run x = new Run(CHECK).idles(3);
        due("turn(6) of the first comma", x.turn(6), true);
        x.take(29);
        due("level() before the second comma's group", x.level(), 0);
        x.take(1);
        due("level() with it", x.level(), 1);
        due("count(1)", x.count(1), 1);
        x.takeAll();
        due("level() with the third", x.level(), 2);
    }

    // the receiver knows bits alone, not who put them onto the line
    private static void bitsAsGroupsAreAsGoodAsSentOnes() {
        Run x = new Run(CHECK);
        for (int i = 0; i < 3; i++) {
            x.bits("0011111010 1001000101");
        }
        x.bits("1101101000 1001110100 1011101000 1110101000").takeAll();
        due("level()", x.level(), 3);
        due("length(0)", x.length(0), 1);
        due("at(0, 0)", x.at(0, 0), 0);
        due("whole(0)", x.whole(0), true);
        due("count(0)", x.count(0), 0);
        due("count(1)", x.count(1), 10);
    }
}
