/** Each promise of the document by hand: ordinary inputs, the edges that it names, wrong inputs. */
public final class PromisesTest {
    private static final int[] WILD = {-1, -2, Integer.MIN_VALUE, Integer.MAX_VALUE};
    private static final Check CHECK = new Check();

    public static void main(String[] args) {
        newObject();
        newObjectBesideAnother();
        send();
        idle();
        feed();
        frame();
        bit();
        turn();
        drop();
        line();
        size();
        disparity();
        take();
        levelWhileSearching();
        levelClimbing();
        trustLost();
        trustRegained();
        symbol();
        symbolsReceivedInStepAlone();
        framesWhole();
        framesBroken();
        framesClosed();
        framesLongest();
        framesKept();
        framesWhenSearchingAgain();
        at();
        decode();
        count();
        CHECK.end();
    }

    private static void due(String what, long got, long want) {
        CHECK.due(what, got, want);
    }

    private static void due(String what, boolean got, boolean want) {
        CHECK.due(what, got, want);
    }

    private static void dueLine(String what, Run x, String want) {
        StringBuilder got = new StringBuilder();
        int size = x.size();
        for (int i = 0; i < size; i++) {
            got.append(x.line(i));
        }
        String plain = want.replace(" ", "");
        if (!got.toString().equals(plain)) {
            System.out.println(what + ": the line is " + got);
        }
        due(what, got.toString().equals(plain), true);
    }

    private static Run withEmptyFrames(int n) {
        return new Run(CHECK).emptyFrames(n);
    }

    private static Run inStep() {
        return Run.inStep(CHECK);
    }

    private static void dueFrame(String what, Run x, int k, int length, boolean whole) {
        due(what + ": length(" + k + ")", x.length(k), length);
        due(what + ": whole(" + k + ")", x.whole(k), whole);
    }

    // Promise 1
    private static void newObject() {
        Run x = new Run(CHECK);
        due("size() at first", x.size(), 0);
        due("line(0) at first", x.line(0), -1);
        due("level() at first", x.level(), 0);
        due("trust() at first", x.trust(), 0);
        due("disparity(0) at first", x.disparity(0), -1);
        due("disparity(1) at first", x.disparity(1), -1);
        due("symbol(0) at first", x.symbol(0), -1);
        due("length(0) at first", x.length(0), -1);
        for (int what = 0; what < 8; what++) {
            due("count(" + what + ") at first", x.count(what), 0);
        }
        due("take(8000) at first", x.take(8000), 0);
        due("frame() with an empty tape", x.frame(), 4);
    }

    private static void newObjectBesideAnother() {
        Run one = inStep().sign(251).plain(1).feeds(2, 0);
        one.take(15);
        Run other = new Run(CHECK);
        due("size() of a new object", other.size(), 0);
        due("level() of a new object", other.level(), 0);
        due("frame(): its tape is empty", other.frame(), 4);
        other.bad(2).takeAll();
        due("level() of the first one", one.level(), 3);
        due("size() of the first one", one.size(), 5);
        due("count(1) of the first one", one.count(1), 7);
        due("disparity(0) of the first one", one.disparity(0), -1);
        one.sign(253, 247).takeAll();
        dueFrame("the first one's frame", one, 0, 1, true);
        due("count(4) of the other", other.count(4), 0);
        due("frame(): the first one's tape", one.frame(), 6);
    }

    // Promise 2
    private static void send() {
        Run x = new Run(CHECK);
        due("send(0) with -", x.send(0, false), 0b1001110100);
        due("send(188, sign) with -", x.send(188, true), 0b0011111010);
        due("send(188, sign) with +", x.send(188, true), 0b1100000101);
        due("send(241), 0111 behind 17", x.send(241, false), 0b1000110111);
        due("send(235), 1000 behind 11", x.send(235, false), 0b1101001000);
        due("send(7)", x.send(7, false), 0b1110001011);
        due("send(7) with +", x.send(7, false), 0b0001110100);
        dueLine("line behind send", x, "1001110100 0011111010 1100000101 1000110111 1101001000 1110001011 0001110100");
        due("count(0)", x.count(0), 7);
        int[] none = {-1, 256, 512, Integer.MIN_VALUE, Integer.MAX_VALUE};
        for (int v : none) {
            due("send(" + v + ", false)", x.send(v, false), -1);
            due("send(" + v + ", true)", x.send(v, true), -1);
        }
        due("send of no sign (27, 6)", x.send(219, true), -1);
        due("send of no sign (31, 7)", x.send(255, true), -1);
        due("send of no sign (0, 0)", x.send(0, true), -1);
        due("size() behind what was not sent", x.size(), 70);
        due("count(0) behind what was not sent", x.count(0), 7);
        sendWithoutRoom();
    }

    private static void sendWithoutRoom() {
        Run x = withEmptyFrames(199);
        x.bits("0101010101 0101010101 0101010101 1");
        int lean = x.disparity(0);
        due("send with 9 bits of room", x.send(32, false), -1);
        due("size() behind no room", x.size(), 7991);
        due("count(0) behind no room", x.count(0), 796);
        due("disparity(0) behind no room", x.disparity(0), lean);
        due("drop(0)", x.drop(0), true);
        due("send with 10 bits of room", x.send(74, false), 0b0101010101);
        due("size() of a full line", x.size(), 8000);
        due("send with no room", x.send(74, false), -1);
    }

    // Promise 3
    private static void idle() {
        Run x = new Run(CHECK);
        due("idle() with -", x.idle(), true);
        dueLine("idle with -", x, "0011111010 1001000101");
        due("disparity(0) behind idle", x.disparity(0), -1);
        due("count(0) behind idle", x.count(0), 2);
        Run y = new Run(CHECK);
        due("send(32)", y.send(32, false), 0b1001111001);
        due("disparity(0)", y.disparity(0), 1);
        due("idle() with +", y.idle(), true);
        dueLine("idle with +", y, "1001111001 1100000101 1010010110");
        due("disparity(0) behind idle with +", y.disparity(0), -1);
        Run z = withEmptyFrames(199);
        z.bits("0101010101 0101010101 1");
        due("idle() with 19 bits of room", z.idle(), false);
        due("size() behind no room", z.size(), 7981);
        due("count(0) behind no room", z.count(0), 796);
        due("drop(5)", z.drop(5), true);
        due("idle() with 20 bits of room", z.idle(), true);
        due("size() of a full line", z.size(), 8000);
    }

    // Promise 4
    private static void feed() {
        Run x = new Run(CHECK);
        int[] none = {-1, 256, Integer.MIN_VALUE, Integer.MAX_VALUE};
        for (int b : none) {
            due("feed(" + b + ")", x.feed(b), false);
        }
        due("feed(0)", x.feed(0), true);
        due("feed(255)", x.feed(255), true);
        for (int i = 2; i < 400; i++) {
            due("feed, the tape holding " + i, x.feed(i % 256), true);
        }
        due("feed with a full tape", x.feed(1), false);
        due("size() behind feed alone", x.size(), 0);
        due("frame() of a full tape", x.frame(), 404);
        due("size() behind it", x.size(), 4040);
        due("feed behind a frame", x.feed(1), true);
        due("frame() of one byte", x.frame(), 4);
    }

    // Promise 5
    private static void frame() {
        Run x = new Run(CHECK);
        x.feed(0);
        due("frame() of one byte", x.frame(), 4);
        dueLine("a frame", x, "1101101000 1001110100 1011101000 1110101000");
        due("count(0)", x.count(0), 4);
        due("send, so that the groups are odd", x.send(74, false), 0b0101010101);
        due("frame() behind five groups", x.frame(), 3);
        dueLine("a frame of none", x, "1101101000 1001110100 1011101000 1110101000"
            + "0101010101 1101101000 1011101000 1110101000");
        due("frame() behind eight", x.frame(), 4);
        due("count(0) behind them", x.count(0), 12);
        due("count(5): sending ends none", x.count(5), 0);
        Run y = new Run(CHECK);
        y.feed(74);
        y.feed(74);
        due("frame() of two bytes", y.frame(), 6);
        dueLine("the sign 247 once more", y, "1101101000 0101010101 0101010101 1011101000 1110101000 1110101000");
        frameWithoutRoom();
    }

    private static void frameWithoutRoom() {
        Run x = withEmptyFrames(198);
        for (int b = 1; b <= 5; b++) {
            due("feed(" + b + ")", x.feed(b), true);
        }
        due("bit(1)", x.bit(1), true);
        due("frame() with a bit too few", x.frame(), -1);
        due("size() behind it", x.size(), 7921);
        due("count(0) behind it", x.count(0), 792);
        due("drop(7920)", x.drop(7920), true);
        due("frame(), the tape having stayed", x.frame(), 8);
        due("size() of a full line", x.size(), 8000);
        due("frame() with no room", x.frame(), -1);
        Run y = withEmptyFrames(198);
        for (int b = 1; b <= 4; b++) {
            due("feed(" + b + ")", y.feed(b), true);
        }
        due("bit(0)", y.bit(0), true);
        due("frame() with room but for its last group", y.frame(), -1);
        due("drop(0)", y.drop(0), true);
        due("frame() with room for that too", y.frame(), 8);
    }

    // Promise 6
    private static void bit() {
        Run x = new Run(CHECK);
        due("bit(1)", x.bit(1), true);
        due("bit(0)", x.bit(0), true);
        due("bit(2)", x.bit(2), false);
        for (int b : WILD) {
            due("bit(" + b + ")", x.bit(b), false);
        }
        dueLine("bits", x, "10");
        due("count(0) behind bits", x.count(0), 0);
        due("disparity(0) behind bits", x.disparity(0), -1);
        Run y = withEmptyFrames(199);
        y.bits("0110100101 0110100101 0110100101 011010010");
        due("size()", y.size(), 7999);
        due("bit(1), the last that has room", y.bit(1), true);
        due("bit(1) with no room", y.bit(1), false);
        due("size() of a full line", y.size(), 8000);
    }

    // Promise 7
    private static void turn() {
        Run x = new Run(CHECK);
        due("turn(0) of none", x.turn(0), false);
        x.bits("1010");
        due("turn(0)", x.turn(0), true);
        due("turn(3)", x.turn(3), true);
        dueLine("turned", x, "0011");
        due("turn(3) back", x.turn(3), true);
        dueLine("turned back", x, "0010");
        due("turn(4)", x.turn(4), false);
        for (int i : WILD) {
            due("turn(" + i + ")", x.turn(i), false);
        }
        dueLine("turned by no such number", x, "0010");
        Run full = withEmptyFrames(200);
        int last = full.line(7999);
        due("turn(7999)", full.turn(7999), true);
        due("line(7999)", full.line(7999), 1 - last);
        due("turn(8000)", full.turn(8000), false);
    }

    // Promise 8
    private static void drop() {
        Run x = new Run(CHECK);
        due("drop(0) of none", x.drop(0), false);
        x.bits("1001101");
        due("drop(0)", x.drop(0), true);
        dueLine("front bit left out", x, "001101");
        due("drop(5)", x.drop(5), true);
        dueLine("last bit left out", x, "00110");
        due("drop(2)", x.drop(2), true);
        dueLine("bit inside left out", x, "0010");
        due("drop(4)", x.drop(4), false);
        for (int i : WILD) {
            due("drop(" + i + ")", x.drop(i), false);
        }
        x.bits("1");
        dueLine("bit behind those left", x, "00101");
        Run full = withEmptyFrames(200);
        due("drop(8000)", full.drop(8000), false);
        due("drop(7999)", full.drop(7999), true);
        due("drop(0)", full.drop(0), true);
        due("size()", full.size(), 7998);
        due("count(0) behind drop", full.count(0), 800);
    }

    // Promise 9
    private static void line() {
        Run x = new Run(CHECK);
        due("line(0) of none", x.line(0), -1);
        x.bits("01");
        due("line(0)", x.line(0), 0);
        due("line(1)", x.line(1), 1);
        due("line(2)", x.line(2), -1);
        for (int i : WILD) {
            due("line(" + i + ")", x.line(i), -1);
        }
        x.take(1);
        due("line(0) behind take", x.line(0), 1);
        due("line(1) behind take", x.line(1), -1);
        Run full = withEmptyFrames(200);
        due("line(7999)", full.line(7999) >= 0, true);
        due("line(8000)", full.line(8000), -1);
    }

    // Promise 10
    private static void size() {
        Run x = new Run(CHECK);
        x.bit(1);
        due("size() of a bit", x.size(), 1);
        x.send(5, false);
        due("size() of a group more", x.size(), 11);
        x.idle();
        due("size() of two groups more", x.size(), 31);
        x.turn(3);
        due("size() behind turn", x.size(), 31);
        x.drop(3);
        due("size() behind drop", x.size(), 30);
        x.take(7);
        due("size() behind take", x.size(), 23);
        x.feed(4);
        due("size() behind feed", x.size(), 23);
        x.frame();
        due("size() behind frame", x.size(), 23 + 50);
    }

    // Promise 11
    private static void disparity() {
        Run x = new Run(CHECK);
        int[] none = {-1, 2, 3, Integer.MIN_VALUE, Integer.MAX_VALUE};
        for (int which : none) {
            due("disparity(" + which + ")", x.disparity(which), 0);
        }
        x.send(188, true);
        due("sending end behind 188", x.disparity(0), 1);
        due("receiver before it took", x.disparity(1), -1);
        x.take(10);
        due("receiver behind 188", x.disparity(1), 1);
        x.send(39, false);
        due("sending end behind 000111 and 1001", x.disparity(0), 1);
        x.send(99, false);
        due("sending end behind 110001 and 0011", x.disparity(0), 1);
        x.send(64, false);
        due("sending end behind 011000 and 0101", x.disparity(0), -1);
        x.send(103, false);
        due("sending end behind 111000 and 1100", x.disparity(0), -1);
        disparityOfReceiver();
    }

    private static void disparityOfReceiver() {
        Run x = new Run(CHECK);
        x.bits("0011111010 1010110100").takeAll();
        due("receiver behind a bad group with 110100", x.level(), 0);
        due("it goes on by the bits of a bad group", x.disparity(1), -1);
        x.bits("1100000111").takeAll();
        due("first group with 1100000 goes by +, though it was -", x.level(), 1);
        due("disparity behind it", x.disparity(1), 1);
        x.bits("1111111111").takeAll();
        due("level() behind a bad group", x.level(), 0);
        due("while it searches it stays", x.disparity(1), 1);
        x.bits("0000000000").takeAll();
        due("bits that it searches do not move it", x.disparity(1), 1);
        due("those of the sending end neither", x.disparity(0), -1);
        Run y = inStep();
        String[] even = {"000111 0101", "111000 0101", "010101 0011", "010101 1100"};
        for (int i = 0; i < even.length; i++) {
            y.bits(even[i]).takeAll();
            due("bad groups turn it by " + even[i], y.disparity(1), i % 2 == 0 ? 1 : -1);
            due("and are bad", y.count(2), i + 1);
        }
    }

    // Promise 12
    private static void take() {
        Run x = new Run(CHECK);
        x.bits("110100111");
        due("take(8001)", x.take(8001), -1);
        for (int n : WILD) {
            due("take(" + n + ")", x.take(n), -1);
        }
        due("size() behind no take", x.size(), 9);
        due("take(0)", x.take(0), 0);
        dueLine("behind take(0)", x, "110100111");
        due("take(2)", x.take(2), 2);
        dueLine("behind take(2)", x, "0100111");
        due("take(7), as many as there are", x.take(7), 7);
        due("take(1) of none", x.take(1), 0);
        x.bits("10");
        due("take(8000) of two", x.take(8000), 2);
        due("size()", x.size(), 0);
        Run full = withEmptyFrames(200);
        due("take(8000) of 8000", full.take(8000), 8000);
        due("size() behind it", full.size(), 0);
    }

    // Promise 13
    private static void levelWhileSearching() {
        Run x = new Run(CHECK);
        x.bits("101 0011111010");
        x.take(12);
        due("level() before the tenth bit of a comma's group", x.level(), 0);
        x.take(1);
        due("level() with the first group", x.level(), 1);
        due("count(1): three bits before it are no group", x.count(1), 1);
        Run few = new Run(CHECK);
        few.bits("011111010").takeAll();
        due("level() with nine bits taken", few.level(), 0);
        Run y = new Run(CHECK);
        y.bits("1100000101").takeAll();
        due("level() with the other comma", y.level(), 1);
        Run z = new Run(CHECK);
        z.bits("0011111111").takeAll();
        due("level() behind a bad first group", z.level(), 0);
        due("count(1) behind it", z.count(1), 1);
        due("count(2) behind it", z.count(2), 1);
        due("count(3) behind it", z.count(3), 1);
        z.bits("00000101").takeAll();
        due("the bits of a bad first group are not looked at again", z.level(), 0);
        z.bits("11000001").takeAll();
        due("level() before that group is whole", z.level(), 0);
        z.bits("01").takeAll();
        due("level() with a first group behind a bad one", z.level(), 1);
    }

    private static void levelClimbing() {
        Run x = new Run(CHECK);
        x.sign(188).plain(74, 74).takeAll();
        due("level() behind good groups without a comma", x.level(), 1);
        x.plain(74).sign(60).takeAll();
        due("level() with a second comma at an even place", x.level(), 2);
        x.plain(74).sign(252).takeAll();
        due("level() with a third", x.level(), 3);
        x.plain(74).sign(188).takeAll();
        due("level() with a fourth", x.level(), 3);
        levelLost();
    }

    private static void levelLost() {
        Run x = new Run(CHECK);
        x.sign(188, 188).takeAll();
        due("level() 1 behind a comma at an odd place", x.level(), 0);
        due("count(3)", x.count(3), 1);
        due("count(2): it was good", x.count(2), 0);
        Run y = new Run(CHECK);
        y.idle();
        y.sign(188).bad();
        y.take(30);
        due("level() before a bad group", y.level(), 2);
        y.takeAll();
        due("level() 2 behind a bad group", y.level(), 0);
        due("count(3)", y.count(3), 1);
        due("count(2)", y.count(2), 1);
        Run z = new Run(CHECK);
        z.idle();
        z.sign(188, 188).takeAll();
        due("level() 2 behind a comma at an odd place", z.level(), 0);
        Run w = new Run(CHECK);
        w.idle();
        w.bits("1100000101").takeAll();
        due("level() 1 behind a bad group with a comma at an even place", w.level(), 0);
    }

    // Promise 14
    private static void trustLost() {
        Run x = new Run(CHECK);
        x.idle();
        x.sign(188).takeAll();
        due("trust() at level 2", x.trust(), 0);
        x.plain(80).sign(188).takeAll();
        due("trust() with level 3", x.trust(), 4);
        Run y = inStep();
        for (int left = 3; left > 0; left--) {
            y.bad().takeAll();
            due("trust() behind a bad group", y.trust(), left);
            due("level() behind it", y.level(), 3);
        }
        y.bad().takeAll();
        due("trust() behind the fourth bad group", y.trust(), 0);
        due("level() behind it", y.level(), 0);
        due("count(3)", y.count(3), 1);
        due("count(7): that one was received", y.count(7), 5);
        trustAtOddPlaces();
    }

    private static void trustAtOddPlaces() {
        Run x = inStep();
        x.plain(74).sign(188).takeAll();
        due("trust() behind a comma at an odd place", x.trust(), 3);
        due("it is a good group all the same", x.count(2), 0);
        due("and received", x.symbol(0), 444);
        x.sign(188).takeAll();
        due("trust() behind one at an even place", x.trust(), 3);
        Run y = inStep();
        y.plain(74).bits("1100000101").takeAll();
        due("one bad with a comma at an odd place takes 1", y.trust(), 3);
        due("and is bad", y.count(2), 1);
    }

    private static void trustRegained() {
        Run x = inStep();
        x.bad().bad().takeAll();
        due("trust() behind two bad groups", x.trust(), 2);
        x.good(3).takeAll();
        due("trust() behind three good ones", x.trust(), 2);
        x.plain(74).takeAll();
        due("trust() behind the fourth", x.trust(), 3);
        x.good(3).bad().takeAll();
        due("trust() behind three good ones and a bad one", x.trust(), 2);
        x.good(3).takeAll();
        due("three behind a bad one: the row began anew", x.trust(), 2);
        x.good(5).takeAll();
        due("trust() behind eight in a row", x.trust(), 4);
        x.good(8).takeAll();
        due("trust() is 4 at most", x.trust(), 4);
        x.bad().takeAll();
        due("trust() behind a bad one then", x.trust(), 3);
        commaAtOddPlaceEndsRow();
    }

    private static void commaAtOddPlaceEndsRow() {
        Run x = inStep();
        x.bad().plain(74, 74).sign(188).takeAll();
        due("trust() behind a bad group and a comma at an odd place", x.trust(), 2);
        x.good(3).takeAll();
        due("trust() behind three good ones", x.trust(), 2);
        x.plain(74).takeAll();
        due("trust() behind the fourth", x.trust(), 3);
        Run again = inStep();
        again.bad(4).idles(3).takeAll();
        due("trust() of a second step", again.trust(), 4);
        due("level() of it", again.level(), 3);
    }

    // Promise 15
    private static void symbol() {
        Run x = inStep();
        due("symbol(0) behind the group that brought level 3", x.symbol(0), 80);
        due("symbol(1): that one is not received", x.symbol(1), -1);
        x.plain(0, 255).sign(28).bad().takeAll();
        due("symbol(0), bad", x.symbol(0), 512);
        due("symbol(1), a sign", x.symbol(1), 256 + 28);
        due("symbol(2)", x.symbol(2), 255);
        due("symbol(3)", x.symbol(3), 0);
        due("symbol(4)", x.symbol(4), 80);
        due("symbol(5)", x.symbol(5), -1);
        for (int k : WILD) {
            due("symbol(" + k + ")", x.symbol(k), -1);
        }
        Run y = inStep();
        for (int v = 0; v < 98; v++) {
            y.plain(v);
        }
        y.takeAll();
        due("symbol(98) of 99", y.symbol(98), 80);
        due("symbol(99) of 99", y.symbol(99), -1);
        y.plain(98, 99).takeAll();
        due("symbol(0) of 101", y.symbol(0), 99);
        due("symbol(1) of 101", y.symbol(1), 98);
        due("symbol(99) of 101", y.symbol(99), 0);
        due("symbol(100) of 101", y.symbol(100), -1);
        due("count(7)", y.count(7), 101);
    }

    private static void symbolsReceivedInStepAlone() {
        Run x = new Run(CHECK);
        x.idle();
        x.idle();
        x.sign(188).takeAll();
        due("level() with the third comma", x.level(), 3);
        due("count(7) with it", x.count(7), 0);
        due("symbol(0) with it", x.symbol(0), -1);
        Run y = inStep();
        y.bad(4);
        y.idle();
        y.takeAll();
        due("count(7): what comes out of step is not received", y.count(7), 5);
        due("symbol(0): what was received stays", y.symbol(0), 512);
        due("symbol(4)", y.symbol(4), 80);
    }

    // Promises 16 and 17
    private static void framesWhole() {
        Run x = inStep();
        x.feed(0);
        x.feed(255);
        x.feed(188);
        due("frame()", x.frame(), 6);
        x.take(50);
        due("count(4) before the end", x.count(4), 0);
        due("length(0) before the end", x.length(0), -1);
        x.takeAll();
        dueFrame("a frame", x, 0, 3, true);
        due("length(1)", x.length(1), -1);
        due("whole(1)", x.whole(1), false);
        for (int k : WILD) {
            due("length(" + k + ")", x.length(k), -1);
            due("whole(" + k + ")", x.whole(k), false);
        }
        due("frame() of none", x.frame(), 4);
        x.takeAll();
        dueFrame("the oldest", x, 0, 3, true);
        dueFrame("a frame of none", x, 1, 0, true);
        due("count(4)", x.count(4), 2);
        due("count(5)", x.count(5), 2);
        due("count(6)", x.count(6), 2);
    }

    private static void framesBroken() {
        Run x = inStep();
        x.sign(251).plain(1).bad().plain(2).takeAll();
        due("a bad group does not end it", x.count(5), 0);
        x.sign(253, 247).takeAll();
        dueFrame("with a bad group", x, 0, 2, false);
        due("at(0, 1) behind the bad group", x.at(0, 1), 2);
        x.sign(251).plain(3).sign(251).takeAll();
        dueFrame("with a beginning inside", x, 1, 1, false);
        due("the new one is under way", x.count(5), 2);
        x.plain(4, 5).sign(253, 247).takeAll();
        dueFrame("the one that began there", x, 2, 2, true);
        int[] others = {247, 254, 28, 92};
        for (int i = 0; i < others.length; i++) {
            x.sign(251).plain(6).sign(others[i]).takeAll();
            dueFrame("with the sign " + others[i], x, 3 + i, 1, false);
        }
        x.plain(7).sign(253, 247).takeAll();
        due("no frame, no end", x.count(5), 7);
        due("count(6)", x.count(6), 1);
    }

    private static void framesClosed() {
        Run x = inStep();
        x.sign(251, 253).plain(9).takeAll();
        dueFrame("a byte behind the close", x, 0, 0, false);
        x.sign(251).plain(1).sign(253, 251).takeAll();
        dueFrame("a beginning behind the close", x, 1, 1, false);
        x.plain(2).sign(253, 253).takeAll();
        dueFrame("it begins a frame, which ends with a second close", x, 2, 1, false);
        x.sign(247).takeAll();
        due("and the end behind that is none", x.count(5), 3);
        x.sign(251, 253).bad().takeAll();
        dueFrame("a bad group behind the close", x, 3, 0, false);
        x.sign(247).takeAll();
        due("and the end behind that is none", x.count(5), 4);
        x.sign(251, 253).plain(247).takeAll();
        dueFrame("247 that is no sign", x, 4, 0, false);
        x.sign(251, 253, 28).takeAll();
        dueFrame("another sign behind the close", x, 5, 0, false);
        x.sign(251, 253, 247, 247).takeAll();
        dueFrame("whole at last", x, 6, 0, true);
        due("the second 247 ends none", x.count(5), 7);
        due("count(6)", x.count(6), 1);
    }

    private static Run withFrameOf(int bytes) {
        Run x = inStep();
        for (int i = 0; i < bytes; i++) {
            x.feed(i % 251);
        }
        due("frame()", x.frame() >= bytes + 3, true);
        x.takeAll();
        return x;
    }

    private static void framesLongest() {
        Run x = withFrameOf(300);
        dueFrame("300 bytes", x, 0, 300, true);
        due("at(0, 299)", x.at(0, 299), 299 % 251);
        due("at(0, 300)", x.at(0, 300), -1);
        Run y = withFrameOf(301);
        dueFrame("301 bytes", y, 0, 300, false);
        due("at(0, 299)", y.at(0, 299), 299 % 251);
        due("at(0, 300)", y.at(0, 300), -1);
        due("count(5)", y.count(5), 1);
        y.feed(77);
        y.frame();
        y.takeAll();
        dueFrame("one behind it", y, 1, 1, true);
        due("at(1, 0)", y.at(1, 0), 77);
        for (int i = 0; i < 300; i += 4) {
            due("at(0, " + i + ") stays", y.at(0, i), i % 251);
        }
    }

    private static void framesKept() {
        Run x = inStep();
        for (int n = 0; n < 40; n++) {
            x.feed(100 + n);
            x.frame();
        }
        x.takeAll();
        due("count(4) of 40", x.count(4), 40);
        due("at(0, 0)", x.at(0, 0), 100);
        due("at(39, 0)", x.at(39, 0), 139);
        due("length(40)", x.length(40), -1);
        x.sign(251).plain(1).takeAll();
        due("one under way drives none out", x.at(0, 0), 100);
        x.sign(28).takeAll();
        due("count(4) of 41", x.count(4), 40);
        due("count(5) of 41", x.count(5), 41);
        due("count(6) of 41", x.count(6), 40);
        due("at(0, 0): the oldest is gone", x.at(0, 0), 101);
        due("at(38, 0)", x.at(38, 0), 139);
        dueFrame("the newest", x, 39, 1, false);
        dueFrame("the one before", x, 38, 1, true);
        due("length(40)", x.length(40), -1);
        for (int n = 0; n < 45; n++) {
            x.feed(200 - n);
            x.frame();
        }
        x.takeAll();
        due("count(4) of 86", x.count(4), 40);
        due("count(5) of 86", x.count(5), 86);
        due("count(6) of 86", x.count(6), 85);
        for (int k = 0; k < 40; k++) {
            dueFrame("a later one", x, k, 1, true);
            due("at(" + k + ", 0) of a later one", x.at(k, 0), 200 - 5 - k);
        }
    }

    private static void framesWhenSearchingAgain() {
        Run x = inStep();
        x.sign(251).plain(1).bad(3).takeAll();
        due("count(5) while in step", x.count(5), 0);
        x.bad().takeAll();
        due("level()", x.level(), 0);
        dueFrame("open when it searches again", x, 0, 1, false);
        due("count(5)", x.count(5), 1);
        x.idles(3);
        x.plain(2).sign(253, 247).takeAll();
        due("level() again", x.level(), 3);
        due("no frame goes on behind a search", x.count(5), 1);
    }

    // Promise 18
    private static void at() {
        Run x = inStep();
        due("at(0, 0) of none", x.at(0, 0), -1);
        x.feed(0);
        x.feed(255);
        x.feed(128);
        x.feed(127);
        x.feed(1);
        x.frame();
        x.feed(200);
        x.frame();
        x.takeAll();
        int[] want = {0, 255, 128, 127, 1};
        for (int i = 0; i < want.length; i++) {
            due("at(0, " + i + ")", x.at(0, i), want[i]);
        }
        due("at(0, 5)", x.at(0, 5), -1);
        due("at(1, 0)", x.at(1, 0), 200);
        due("at(1, 1)", x.at(1, 1), -1);
        due("at(2, 0)", x.at(2, 0), -1);
        for (int n : WILD) {
            due("at(0, " + n + ")", x.at(0, n), -1);
            due("at(" + n + ", 0)", x.at(n, 0), -1);
        }
    }

    // Promise 19
    private static void decode() {
        Run x = new Run(CHECK);
        due("decode of 74", x.decode(0b0101010101, -1), 74);
        due("decode of 74 with +", x.decode(0b0101010101, 1), 74);
        due("decode of the sign 188", x.decode(0b0011111010, -1), 444);
        due("decode of it with the other disparity", x.decode(0b0011111010, 1), -1);
        due("decode of the sign 247", x.decode(0b1110101000, -1), 256 + 247);
        due("decode of the byte 247", x.decode(0b1110100001, -1), 247);
        due("decode of 241", x.decode(0b1000110111, -1), 241);
        due("decode of what 241 is not", x.decode(0b1000111110, -1), -1);
        due("decode of 235 with +", x.decode(0b1101001000, 1), 235);
        due("decode of what 235 is not", x.decode(0b1101000001, 1), -1);
        due("decode(0, -1)", x.decode(0, -1), -1);
        due("decode(1023, 1)", x.decode(1023, 1), -1);
        due("decode(1024 + 341, 1)", x.decode(1024 + 341, 1), -1);
        due("decode(-1, 1)", x.decode(-1, 1), -1);
        due("decode(341, 0)", x.decode(341, 0), -1);
        due("decode(341, 2)", x.decode(341, 2), -1);
        due("decode moves nothing", x.count(1), 0);
        due("nor the disparity", x.disparity(1), -1);
    }

    // Promise 20
    private static void count() {
        Run x = inStep();
        due("count(0)", x.count(0), 6);
        due("count(1)", x.count(1), 6);
        x.bits("11111");
        due("count(0): bits are no groups", x.count(0), 6);
        x.bits("10000").plain(74);
        x.take(15);
        due("count(1): a part is no group", x.count(1), 7);
        due("count(2)", x.count(2), 1);
        x.takeAll();
        due("count(1)", x.count(1), 8);
        x.bad(3);
        x.bits("0101010101 0101010101").takeAll();
        due("level()", x.level(), 0);
        due("count(1): while it searches none is taken", x.count(1), 11);
        due("count(2)", x.count(2), 4);
        due("count(3)", x.count(3), 1);
        due("count(7)", x.count(7), 6);
        int[] none = {-1, 8, 9, Integer.MIN_VALUE, Integer.MAX_VALUE};
        for (int what : none) {
            due("count(" + what + ")", x.count(what), -1);
        }
    }
}
