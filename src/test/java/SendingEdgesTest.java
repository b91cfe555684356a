import java.util.List;

/**
 * The sending end and the code at the edges that the document names (promises 2 to 5, 11 and 19):
 * each test is one of its sentences, looked at from both sides.
 */
public final class SendingEdgesTest {
    private static final Check CHECK = new Check();

    public static void main(String[] args) {
        byteFrom0To255();
        sixForModulo32FourForTheRest();
        sevenBehindSomeSixes();
        signsAreTwelve();
        numberHasFirstBitHighest();
        sendNeedsRoomForTenBits();
        idleGoesByDisparityBefore();
        idleNeedsRoomForTwentyBits();
        feedTakesBytesAlone();
        tapeHasRoomFor400();
        tapeIsEmptyBehindFrame();
        frameOfEmptyTape();
        lastSignOnceMoreIfGroupsAreOdd();
        groupsSentInAllCount();
        frameNeedsRoomForAllItsGroups();
        frameNeedsRoomForTheSignOnceMore();
        longestFrameFits();
        tapeStaysWhereFrameHasNoRoom();
        fullTapeStaysWhereFrameHasNoRoom();
        disparityMinusAtFirst();
        disparityBehindSix();
        disparityBehindFour();
        disparityOfTwoEndsAlone();
        disparityOfAnotherNumber();
        decodeOfTenBitsAlone();
        decodeWithADisparityAlone();
        decodeOfSigns();
        decodeOfSevenBehindSomeSixes();
        countOfGroupsSent();
        countOfAnotherNumber();
        CHECK.end();
    }

    private static void due(String what, long got, long want) {
        CHECK.due(what, got, want);
    }

    private static void due(String what, boolean got, boolean want) {
        CHECK.due(what, got, want);
    }

    /** 32 with - leaves +, and ten bits on the line. */
    private static Run leaning(int disparity) {
        Run x = new Run(CHECK);
        return disparity > 0 ? x.plain(32) : x;
    }

    private static void dueGroup(int v, int disparity, String group) {
        int number = Integer.parseInt(group.replace(" ", ""), 2);
        due("send(" + v + ", false) with " + disparity, leaning(disparity).send(v, false), number);
        due("decode of " + group + " with " + disparity, new Run(CHECK).decode(number, disparity), v);
    }

    private static void dueLine(String what, Run x, int from, String groups) {
        String want = groups.replace(" ", "");
        due(what + ": size()", x.size(), from + want.length());
        for (int i = 0; i < want.length(); i++) {
            due(what + ": line(" + (from + i) + ")", x.line(from + i), want.charAt(i) - '0');
        }
    }

    // "A SYMBOL is a byte v", "NONE: no such byte"
    private static void byteFrom0To255() {
        Run x = new Run(CHECK);
        due("send(-1, false)", x.send(-1, false), -1);
        due("send(256, false)", x.send(256, false), -1);
        due("send(MIN, false)", x.send(Integer.MIN_VALUE, false), -1);
        due("send(MAX, false)", x.send(Integer.MAX_VALUE, false), -1);
        due("size() behind what is no byte", x.size(), 0);
        due("send(0, false)", x.send(0, false), 0b1001110100);
        due("send(255, false)", x.send(255, false), 0b1010110001);
        due("size() behind two bytes", x.size(), 20);
    }

    // "six bits for x = v modulo 32, then four for y = v / 32"
    private static void sixForModulo32FourForTheRest() {
        dueGroup(31, -1, "101011 0100");
        dueGroup(32, -1, "100111 1001");
        dueGroup(31, 1, "010100 1011");
        dueGroup(32, 1, "011000 1001");
        dueGroup(223, -1, "101011 0110");
        dueGroup(224, -1, "100111 0001");
        dueGroup(223, 1, "010100 0110");
        dueGroup(224, 1, "011000 1110");
    }

    // "but y = 7 is 0111 with disparity - behind x of 17, 18, 20, and 1000 with + behind x of 11, 13, 14"
    private static void sevenBehindSomeSixes() {
        dueGroup(224 + 16, -1, "011011 0001");
        dueGroup(224 + 17, -1, "100011 0111");
        dueGroup(224 + 18, -1, "010011 0111");
        dueGroup(224 + 19, -1, "110010 1110");
        dueGroup(224 + 20, -1, "001011 0111");
        dueGroup(224 + 21, -1, "101010 1110");
        dueGroup(224 + 17, 1, "100011 0001");
        dueGroup(224 + 18, 1, "010011 0001");
        dueGroup(224 + 20, 1, "001011 0001");
        dueGroup(192 + 17, -1, "100011 0110");
        dueGroup(224 + 10, 1, "010101 0001");
        dueGroup(224 + 11, 1, "110100 1000");
        dueGroup(224 + 12, 1, "001101 0001");
        dueGroup(224 + 13, 1, "101100 1000");
        dueGroup(224 + 14, 1, "011100 1000");
        dueGroup(224 + 15, 1, "101000 1110");
        dueGroup(224 + 11, -1, "110100 1110");
        dueGroup(224 + 13, -1, "101100 1110");
        dueGroup(224 + 14, -1, "011100 1110");
        dueGroup(192 + 11, 1, "110100 0110");
    }

    // "SIGNS are those with x = 28, and those with y = 7 and x of 23, 27, 29, 30", "NONE: no such .. sign"
    private static void signsAreTwelve() {
        List<Integer> signs = List.of(28, 60, 92, 124, 156, 188, 220, 252, 247, 251, 253, 254);
        Run x = new Run(CHECK);
        for (int v = -1; v <= 256; v++) {
            due("send(" + v + ", true) is a sign", x.send(v, true) != -1, signs.contains(v));
        }
        due("send(188 + 256, true)", x.send(188 + 256, true), -1);
        due("send(188 - 256, true)", x.send(188 - 256, true), -1);
        due("count(0) behind twelve signs", x.count(0), 12);
        due("size() behind twelve signs", x.size(), 120);
    }

    // "its ten bits as a number, the first one highest"
    private static void numberHasFirstBitHighest() {
        Run x = new Run(CHECK);
        due("send(188, true), which begins with 0", x.send(188, true), 250);
        due("send(188, true), which begins with 1", x.send(188, true), 1023 - 250);
        dueLine("their bits", x, 0, "0011111010 1100000101");
    }

    // "NONE: .. the line has no room"
    private static void sendNeedsRoomForTenBits() {
        due("send with room for ten bits", new Run(CHECK).fill(7990).send(74, false), 0b0101010101);
        due("send with room for nine", new Run(CHECK).fill(7991).send(74, false), -1);
        due("send with no room", new Run(CHECK).fill(8000).send(74, false), -1);
        due("a sign with room for ten bits", new Run(CHECK).fill(7990).send(188, true), 250);
        due("a sign with room for nine", new Run(CHECK).fill(7991).send(188, true), -1);
        Run x = new Run(CHECK).fill(8000);
        x.take(9);
        due("send behind nine bits taken", x.send(74, false), -1);
        x.take(1);
        due("send behind ten bits taken", x.send(74, false), 0b0101010101);
        due("size() then", x.size(), 8000);
    }

    // "the sign 188 (28, 5), then 197 (5, 6) if the disparity was + before, else 80 (16, 2)"
    private static void idleGoesByDisparityBefore() {
        Run minus = leaning(-1);
        due("idle() with -", minus.idle(), true);
        dueLine("idle with -", minus, 0, "001111 1010 100100 0101");
        due("disparity(0) behind it", minus.disparity(0), -1);
        Run plus = leaning(1);
        due("idle() with +", plus.idle(), true);
        dueLine("idle with +", plus, 10, "110000 0101 101001 0110");
        due("disparity(0) behind it", plus.disparity(0), -1);
    }

    // "False: no room (for 20 bits)"
    private static void idleNeedsRoomForTwentyBits() {
        Run x = new Run(CHECK).fill(7980);
        due("idle() with room for 20 bits", x.idle(), true);
        due("size() then", x.size(), 8000);
        due("idle() with no room", x.idle(), false);
        due("idle() with room for 19 bits", new Run(CHECK).fill(7981).idle(), false);
        Run half = new Run(CHECK).fill(7990);
        due("idle() with room for one group", half.idle(), false);
        due("size(): not even the first is sent", half.size(), 7990);
        due("count(0) then", half.count(0), 796);
        due("disparity(0) then", half.disparity(0), -1);
    }

    // "A byte (0 .. 255) comes behind the TAPE", "False: not such"
    private static void feedTakesBytesAlone() {
        Run x = new Run(CHECK);
        due("feed(-1)", x.feed(-1), false);
        due("feed(256)", x.feed(256), false);
        due("feed(MIN)", x.feed(Integer.MIN_VALUE), false);
        due("feed(MAX)", x.feed(Integer.MAX_VALUE), false);
        due("feed(255)", x.feed(255), true);
        due("feed(0)", x.feed(0), true);
        due("frame() of the two that are bytes", x.frame(), 6);
        dueLine("their order", x, 0, "110110 1000 101011 0001 100111 0100 101110 1000 111010 1000 111010 1000");
    }

    // "400 at most", "False: .. no room"
    private static void tapeHasRoomFor400() {
        Run x = new Run(CHECK).feeds(399, 0);
        due("feed, the 400th", x.feed(74), true);
        due("feed, the 401st", x.feed(8), false);
        due("feed, once more", x.feed(9), false);
        due("frame() of 400", x.frame(), 404);
        due("size() behind it", x.size(), 4040);
        x.take(4000);
        for (int i = 0; i < 10; i++) {
            due("bit " + i + " of the 400th", x.line(i), i % 2);
        }
    }

    // "The tape, which is empty then"
    private static void tapeIsEmptyBehindFrame() {
        Run x = new Run(CHECK).feeds(3, 0);
        due("frame() of three bytes", x.frame(), 6);
        due("frame() behind it, of none", x.frame(), 4);
        Run full = new Run(CHECK).feeds(400, 0);
        due("feed with a full tape", full.feed(1), false);
        due("frame() of it", full.frame(), 404);
        due("feed behind it", full.feed(1), true);
        due("frame() of that one", full.frame(), 4);
    }

    // "The tape .. is sent as a FRAME": an empty one too
    private static void frameOfEmptyTape() {
        Run x = new Run(CHECK);
        due("frame() at first", x.frame(), 4);
        dueLine("an empty frame", x, 0, "110110 1000 101110 1000 111010 1000 111010 1000");
        due("frame() with one byte", new Run(CHECK).feeds(1, 9).frame(), 4);
    }

    // "and that once more if as many groups as were sent by then (in all) are odd"
    private static void lastSignOnceMoreIfGroupsAreOdd() {
        for (int before = 0; before < 4; before++) {
            for (int bytes = 0; bytes < 4; bytes++) {
                Run x = new Run(CHECK).good(before).feeds(bytes, 0);
                int groups = bytes + 3;
                int all = (before + groups) % 2 == 0 ? groups : groups + 1;
                due("frame() of " + bytes + " behind " + before, x.frame(), all);
                due("its size", x.size(), 10 * (before + all));
                due("count(0)", x.count(0), before + all);
                String ends = all == groups ? "1110101000" : "1110101000 1110101000";
                due("disparity(0)", x.disparity(0), -1);
                x.take(10 * (before + groups - 1));
                dueLine("its end", x, 0, ends);
            }
        }
    }

    // "(in all)": groups that were taken or whose bits were dropped count, bits do not
    private static void groupsSentInAllCount() {
        Run taken = new Run(CHECK).good(1).takeAll();
        due("frame() behind a group that was taken", taken.frame(), 3);
        Run dropped = new Run(CHECK).good(1);
        for (int i = 0; i < 10; i++) {
            due("drop(0)", dropped.drop(0), true);
        }
        due("frame() behind a group that was dropped", dropped.frame(), 3);
        due("frame() behind ten bits", new Run(CHECK).bits("0101010101").frame(), 4);
        due("frame() behind idle", new Run(CHECK).idles(1).frame(), 4);
        Run refused = new Run(CHECK);
        due("send(256, false)", refused.send(256, false), -1);
        due("frame() behind a group that was refused", refused.frame(), 4);
    }

    // "NONE, the tape staying: no room for them"
    private static void frameNeedsRoomForAllItsGroups() {
        due("frame() of 4 groups with room for 40 bits", new Run(CHECK).fill(7960).frame(), 4);
        due("frame() of 4 groups with room for 39", new Run(CHECK).fill(7961).frame(), -1);
        due("frame() with no room", new Run(CHECK).fill(8000).frame(), -1);
        due("3 groups with room for 30 bits", new Run(CHECK).fill(7920).good(1).bits(alternate(40)).frame(), 3);
        due("3 groups with room for 29", new Run(CHECK).fill(7920).good(1).bits(alternate(41)).frame(), -1);
    }

    private static String alternate(int n) {
        return "01".repeat(n).substring(0, n);
    }

    // the sign that comes once more is one of its groups
    private static void frameNeedsRoomForTheSignOnceMore() {
        Run x = new Run(CHECK).fill(7970);
        due("frame() with room for three of its four groups", x.frame(), -1);
        due("size(): nothing of it is sent", x.size(), 7970);
        due("count(0) then", x.count(0), 796);
        for (int i = 0; i < 9; i++) {
            due("drop(0)", x.drop(0), true);
        }
        due("frame() with room for 39 bits", x.frame(), -1);
        due("drop(0), the tenth", x.drop(0), true);
        due("frame() with room for all four", x.frame(), 4);
        due("size() of a full line", x.size(), 8000);
    }

    // a frame of 400 bytes, 404 groups, has its room on a line of 3960 bits
    private static void longestFrameFits() {
        Run x = new Run(CHECK).fill(3960).feeds(400, 0);
        due("frame() of 400 bytes with room for 4040 bits", x.frame(), 404);
        due("size() of a full line", x.size(), 8000);
        Run y = new Run(CHECK).fill(3960).feeds(400, 0).bits("0");
        due("frame() of 400 bytes with room for 4039", y.frame(), -1);
    }

    // "the tape staying"
    private static void tapeStaysWhereFrameHasNoRoom() {
        Run x = new Run(CHECK).fill(7960).feeds(2, 0);
        due("frame() of two bytes with room for 40 bits", x.frame(), -1);
        due("feed behind it", x.feed(2), true);
        due("frame() once more", x.frame(), -1);
        due("take(40)", x.take(40), 40);
        due("frame() of the two and the one", x.frame(), 6);
        x.take(7930);
        dueLine("its bytes", x, 0, "100111 0100 011101 0100 101101 0100 101110 1000 111010 1000");
    }

    private static void fullTapeStaysWhereFrameHasNoRoom() {
        Run x = new Run(CHECK).fill(4000).feeds(400, 0);
        due("frame() of 400 with room for 4000 bits", x.frame(), -1);
        due("feed: the tape is full still", x.feed(1), false);
        due("take(40)", x.take(40), 40);
        due("frame() of 400 with room for 4040", x.frame(), 404);
        due("feed: the tape is empty", x.feed(1), true);
    }

    // "THE DISPARITY is - at first"
    private static void disparityMinusAtFirst() {
        Run x = new Run(CHECK);
        due("disparity(0) at first", x.disparity(0), -1);
        due("disparity(1) at first", x.disparity(1), -1);
        due("send(0) goes by it", x.send(0, false), 0b1001110100);
    }

    private static void dueBehind(int v, int before, int behind) {
        Run x = leaning(before).plain(v);
        due("disparity(0) behind " + v + " with " + before, x.disparity(0), behind);
    }

    // "Behind six bits .. + if more of them are 1 than 0, or they are 000111; - if fewer are, or they are 111000"
    private static void disparityBehindSix() {
        dueBehind(32, -1, 1);
        dueBehind(32, 1, -1);
        dueBehind(35, -1, -1);
        dueBehind(35, 1, 1);
        dueBehind(39, -1, -1);
        dueBehind(39, 1, 1);
    }

    // ".. or four, .. or 0011 .. or 1100 .. else as before. The four go by the disparity behind the six"
    private static void disparityBehindFour() {
        dueBehind(3, -1, 1);
        dueBehind(3, 1, -1);
        dueBehind(99, -1, -1);
        dueBehind(99, 1, 1);
        dueBehind(0, -1, -1);
        dueBehind(0, 1, 1);
        dueBehind(96, -1, 1);
        dueBehind(96, 1, -1);
        dueGroup(0, -1, "100111 0100");
        dueGroup(0, 1, "011000 1011");
        dueGroup(96, -1, "100111 0011");
        dueGroup(96, 1, "011000 1100");
        dueGroup(99, -1, "110001 1100");
        dueGroup(99, 1, "110001 0011");
    }

    // "The sending end and the receiving one have one each"
    private static void disparityOfTwoEndsAlone() {
        Run x = new Run(CHECK).sign(188);
        due("disparity(0) of what was sent", x.disparity(0), 1);
        due("disparity(1) of what was not taken", x.disparity(1), -1);
        x.takeAll();
        due("disparity(1) of what was taken", x.disparity(1), 1);
        x.plain(32);
        due("disparity(0) of what was sent behind it", x.disparity(0), -1);
        due("disparity(1) stays", x.disparity(1), 1);
        x.bits("0000000000").takeAll();
        due("disparity(0) stays where bits come", x.disparity(0), -1);
    }

    // "0: another number"
    private static void disparityOfAnotherNumber() {
        Run x = new Run(CHECK).sign(188);
        due("disparity(-1)", x.disparity(-1), 0);
        due("disparity(0)", x.disparity(0), 1);
        due("disparity(1)", x.disparity(1), -1);
        due("disparity(2)", x.disparity(2), 0);
        due("disparity(MIN)", x.disparity(Integer.MIN_VALUE), 0);
        due("disparity(MAX)", x.disparity(Integer.MAX_VALUE), 0);
    }

    // "a group of ten bits": "NONE: it is none, or no such numbers"
    private static void decodeOfTenBitsAlone() {
        Run x = new Run(CHECK);
        due("decode(-1, -1)", x.decode(-1, -1), -1);
        due("decode(0, -1)", x.decode(0, -1), -1);
        due("decode(0, 1)", x.decode(0, 1), -1);
        due("decode(1023, -1)", x.decode(1023, -1), -1);
        due("decode(1023, 1)", x.decode(1023, 1), -1);
        due("decode(1024, 1)", x.decode(1024, 1), -1);
        due("decode(341, 1)", x.decode(341, 1), 74);
        due("decode(341 + 1024, 1)", x.decode(341 + 1024, 1), -1);
        due("decode(341 - 1024, 1)", x.decode(341 - 1024, 1), -1);
        due("decode(341 + MIN, 1)", x.decode(341 + Integer.MIN_VALUE, 1), -1);
        due("decode(MAX, 1)", x.decode(Integer.MAX_VALUE, 1), -1);
    }

    // "with a disparity (-1, 1)"
    private static void decodeWithADisparityAlone() {
        Run x = new Run(CHECK);
        due("decode(341, -2)", x.decode(341, -2), -1);
        due("decode(341, -1)", x.decode(341, -1), 74);
        due("decode(341, 0)", x.decode(341, 0), -1);
        due("decode(341, 1)", x.decode(341, 1), 74);
        due("decode(341, 2)", x.decode(341, 2), -1);
        due("decode(341, MIN)", x.decode(341, Integer.MIN_VALUE), -1);
        due("decode(341, MAX)", x.decode(341, Integer.MAX_VALUE), -1);
        due("a group of - with -", x.decode(0b1001110100, -1), 0);
        due("a group of - with +", x.decode(0b1001110100, 1), -1);
        due("a group of + with +", x.decode(0b0110001011, 1), 0);
        due("a group of + with -", x.decode(0b0110001011, -1), -1);
        due("a six of - with a four that goes not by the six", x.decode(0b1001111011, -1), -1);
    }

    // "256 more if it is a sign"
    private static void decodeOfSigns() {
        Run x = new Run(CHECK);
        due("the byte 28 with -", x.decode(0b0011101011, -1), 28);
        due("the sign 28 with -", x.decode(0b0011110100, -1), 256 + 28);
        due("the sign 28 with +", x.decode(0b1100001011, 1), 256 + 28);
        due("the sign 252 with -", x.decode(0b0011111000, -1), 256 + 252);
        due("the byte 254 with -", x.decode(0b0111100001, -1), 254);
        due("the sign 254 with -", x.decode(0b0111101000, -1), 256 + 254);
        due("the sign 254 with +", x.decode(0b1000010111, 1), 256 + 254);
        due("what would be a sign (31, 7) with -", x.decode(0b1010111000, -1), -1);
        due("what would be a sign (24, 7) with +", x.decode(0b0011000111, 1), -1);
    }

    // each form of y = 7 is a group in its own places alone
    private static void decodeOfSevenBehindSomeSixes() {
        Run x = new Run(CHECK);
        String[] withMinus = {"100011", "010011", "001011"};
        for (String six : withMinus) {
            due(six + " 1110 with -", x.decode(Integer.parseInt(six + "1110", 2), -1), -1);
            due(six + " 0111 with +", x.decode(Integer.parseInt(six + "0111", 2), 1), -1);
        }
        String[] withPlus = {"110100", "101100", "011100"};
        for (String six : withPlus) {
            due(six + " 0001 with +", x.decode(Integer.parseInt(six + "0001", 2), 1), -1);
            due(six + " 1000 with -", x.decode(Integer.parseInt(six + "1000", 2), -1), -1);
        }
        due("110010 0111 with -", x.decode(0b1100100111, -1), -1);
        due("001101 1000 with +", x.decode(0b0011011000, 1), -1);
    }

    // "0 groups sent"
    private static void countOfGroupsSent() {
        Run x = new Run(CHECK);
        due("count(0) at first", x.count(0), 0);
        x.plain(1);
        due("count(0) behind a symbol", x.count(0), 1);
        x.idles(1);
        due("count(0) behind idle", x.count(0), 3);
        x.feeds(1, 0);
        due("count(0) behind feed", x.count(0), 3);
        due("frame()", x.frame(), 5);
        due("count(0) behind a frame", x.count(0), 8);
        x.bits("0101010101");
        due("count(0) behind ten bits", x.count(0), 8);
        x.takeAll();
        due("count(0) behind take", x.count(0), 8);
    }

    // "NONE: another number"
    private static void countOfAnotherNumber() {
        Run x = new Run(CHECK);
        due("count(-1)", x.count(-1), -1);
        due("count(0)", x.count(0), 0);
        due("count(7)", x.count(7), 0);
        due("count(8)", x.count(8), -1);
        due("count(MIN)", x.count(Integer.MIN_VALUE), -1);
        due("count(MAX)", x.count(Integer.MAX_VALUE), -1);
    }
}
