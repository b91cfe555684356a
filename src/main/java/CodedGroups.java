/**
 * Bytes on a line as groups of ten bits, with signs of their own between, and a receiver that
 * finds where groups begin, holds or loses its trust, and takes frames out.
 */
public final class CodedGroups {
    public static final int NONE = -1;

    /** What is added to a sign's byte wherever a symbol is told as one number. */
    private static final int SIGN = 256;
    private static final int MINUS = -1;
    private static final int PLUS = 1;
    private static final int GROUP_BITS = 10;
    private static final int GROUP_MASK = 1023;

    private static final int FRAME_BEGIN = 251;
    private static final int FRAME_CLOSE = 253;
    private static final int FRAME_END = 247;

    private final Line wire = new Line();
    private final Sender sender = new Sender();
    private final Receiver receiver = new Receiver();

    public CodedGroups() {
    }

    public int send(int v, boolean sign) {
        if (!Code.isSymbol(v, sign) || !wire.hasRoomFor(GROUP_BITS)) {
            return NONE;
        }
        return sender.put(v, sign, wire);
    }

    public boolean idle() {
        return sender.putIdle(wire);
    }

    public boolean feed(int b) {
        return sender.keepOnTape(b);
    }

    public int frame() {
        return sender.putFrame(wire);
    }

    public boolean bit(int b) {
        return (b == 0 || b == 1) && wire.append(b);
    }

    public boolean turn(int i) {
        return wire.flip(i);
    }

    public boolean drop(int i) {
        return wire.leaveOut(i);
    }

    public int line(int i) {
        return wire.get(i);
    }

    public int size() {
        return wire.held;
    }

    public int disparity(int which) {
        switch (which) {
            case 0: return sender.lean;
            case 1: return receiver.lean;
            default: return 0;
        }
    }

    public int take(int n) {
        if (n < 0 || n > Line.MOST) {
            return NONE;
        }
        int taken = Math.min(n, wire.held);
        for (int i = 0; i < taken; i++) {
            receiver.accept(wire.get(i));
        }
        wire.cutFront(taken);
        return taken;
    }

    public int level() {
        return receiver.rank;
    }

    public int trust() {
        return receiver.faith;
    }

    public int symbol(int k) {
        return receiver.log.latest(k);
    }

    public int length(int k) {
        return receiver.shelf.lengthOf(k);
    }

    public boolean whole(int k) {
        return receiver.shelf.isWhole(k);
    }

    public int at(int k, int i) {
        return receiver.shelf.byteOf(k, i);
    }

    public int decode(int group, int disparity) {
        return Code.symbolOf(group, disparity);
    }

    public int count(int what) {
        switch (what) {
            case 0: return sender.sent;
            case 1: return receiver.groups;
            case 2: return receiver.badGroups;
            case 3: return receiver.searches;
            case 4: return receiver.shelf.kept;
            case 5: return receiver.shelf.ended;
            case 6: return receiver.shelf.endedWhole;
            case 7: return receiver.log.received;
            default: return NONE;
        }
    }

    /** The groups of symbols, as the document's tables have them. */
    private static final class Code {
        private static final int[] SIX_MINUS = {
            0b100111, 0b011101, 0b101101, 0b110001, 0b110101, 0b101001, 0b011001, 0b111000,
            0b111001, 0b100101, 0b010101, 0b110100, 0b001101, 0b101100, 0b011100, 0b010111,
            0b011011, 0b100011, 0b010011, 0b110010, 0b001011, 0b101010, 0b011010, 0b111010,
            0b110011, 0b100110, 0b010110, 0b110110, 0b001110, 0b101110, 0b011110, 0b101011
        };
        private static final int[] SIX_PLUS = {
            0b011000, 0b100010, 0b010010, 0b110001, 0b001010, 0b101001, 0b011001, 0b000111,
            0b000110, 0b100101, 0b010101, 0b110100, 0b001101, 0b101100, 0b011100, 0b101000,
            0b100100, 0b100011, 0b010011, 0b110010, 0b001011, 0b101010, 0b011010, 0b000101,
            0b001100, 0b100110, 0b010110, 0b001001, 0b001110, 0b010001, 0b100001, 0b010100
        };
        private static final int[] FOUR_MINUS = {
            0b1011, 0b1001, 0b0101, 0b1100, 0b1101, 0b1010, 0b0110, 0b1110
        };
        private static final int[] FOUR_PLUS = {
            0b0100, 0b1001, 0b0101, 0b0011, 0b0010, 0b1010, 0b0110, 0b0001
        };
        private static final int[] SIGN_FOUR_MINUS = {
            0b1011, 0b0110, 0b1010, 0b1100, 0b1101, 0b0101, 0b1001, 0b0111
        };
        private static final int[] SIGN_FOUR_PLUS = {
            0b0100, 0b1001, 0b0101, 0b0011, 0b0010, 0b1010, 0b0110, 0b1000
        };
        private static final int COMMA_MINUS = 0b0011111;
        private static final int COMMA_PLUS = 0b1100000;

        static boolean isSymbol(int v, boolean sign) {
            if (v < 0 || v > 255) {
                return false;
            }
            return !sign || isSign(v & 31, v >> 5);
        }

        private static boolean isSign(int x, int y) {
            return x == 28 || (y == 7 && (x == 23 || x == 27 || x == 29 || x == 30));
        }

        /** The group of a symbol, whose byte is 0 .. 255. */
        static int groupOf(int v, boolean sign, int lean) {
            int x = v & 31;
            int six = sixOf(x, sign, lean);
            int four = fourOf(x, (v >> 5) & 7, sign, behindSix(six, lean));
            return (six << 4) | four;
        }

        private static int sixOf(int x, boolean sign, int lean) {
            if (x < 0 || x > 31) {
                return NONE;
            }
            if (sign && x == 28) {
                return lean < 0 ? 0b001111 : 0b110000;
            }
            return lean < 0 ? SIX_MINUS[x] : SIX_PLUS[x];
        }

        private static int fourOf(int x, int y, boolean sign, int lean) {
            if (y < 0 || y > 7) {
                return NONE;
            }
            if (sign) {
                return lean < 0 ? SIGN_FOUR_MINUS[y] : SIGN_FOUR_PLUS[y];
            }
            if (y == 7 && lean < 0 && (x == 17 || x == 18 || x == 20)) {
                return 0b0111;
            }
            if (y == 7 && lean > 0 && (x == 11 || x == 13 || x == 14)) {
                return 0b1000;
            }
            return lean < 0 ? FOUR_MINUS[y] : FOUR_PLUS[y];
        }

        private static int behindSix(int six, int lean) {
            int ones = Integer.bitCount(six);
            if (ones > 3 || six == 0b000111) {
                return PLUS;
            }
            if (ones < 3 || six == 0b111000) {
                return MINUS;
            }
            return lean;
        }

        private static int behindFour(int four, int lean) {
            int ones = Integer.bitCount(four);
            if (ones > 2 || four == 0b0011) {
                return PLUS;
            }
            if (ones < 2 || four == 0b1100) {
                return MINUS;
            }
            return lean;
        }

        /** The disparity behind any ten bits, be they a symbol's group or not. */
        static int behindGroup(int group, int lean) {
            return behindFour(group & 15, behindSix(group >> 4, lean));
        }

        static boolean isComma(int group) {
            int first = group >> 3;
            return first == COMMA_MINUS || first == COMMA_PLUS;
        }

        /** The disparity that a group with a comma must have had before it. */
        static int leanBeforeComma(int group) {
            return group >> 3 == COMMA_MINUS ? MINUS : PLUS;
        }

        static int symbolOf(int group, int lean) {
            if (group < 0 || group > GROUP_MASK || (lean != MINUS && lean != PLUS)) {
                return NONE;
            }
            int plain = byteOfGroup(group, false, lean);
            if (plain != NONE) {
                return plain;
            }
            int sign = byteOfGroup(group, true, lean);
            return sign == NONE ? NONE : sign + SIGN;
        }

        private static int byteOfGroup(int group, boolean sign, int lean) {
            int six = group >> 4;
            for (int x = 0; x < 32; x++) {
                if (sixOf(x, sign, lean) == six) {
                    int y = highPart(group & 15, x, sign, behindSix(six, lean));
                    if (y != NONE) {
                        return y * 32 + x;
                    }
                }
            }
            return NONE;
        }

        private static int highPart(int four, int x, boolean sign, int lean) {
            for (int y = 0; y < 8; y++) {
                if (fourOf(x, y, sign, lean) == four && (!sign || isSign(x, y))) {
                    return y;
                }
            }
            return NONE;
        }
    }

    /** The bits under way; the front one always stands at index 0. */
    private static final class Line {
        static final int MOST = 8000;
        private final byte[] bits = new byte[MOST];
        private int held = 0;

        boolean hasRoomFor(int more) {
            return more <= MOST - held;
        }

        boolean append(int b) {
            if (held < 0 || held >= MOST) {
                return false;
            }
            bits[held] = (byte) b;
            held++;
            return true;
        }

        private boolean has(int i) {
            return i >= 0 && i < held && held <= MOST;
        }

        int get(int i) {
            return has(i) ? bits[i] : NONE;
        }

        boolean flip(int i) {
            if (!has(i)) {
                return false;
            }
            bits[i] = (byte) (1 - bits[i]);
            return true;
        }

        boolean leaveOut(int i) {
            if (!has(i)) {
                return false;
            }
            System.arraycopy(bits, i + 1, bits, i, held - i - 1);
            held--;
            return true;
        }

        void cutFront(int n) {
            if (n <= 0 || n > held) {
                return;
            }
            System.arraycopy(bits, n, bits, 0, held - n);
            held -= n;
        }
    }

    /** The sending end: its disparity, and the tape of bytes for the next frame. */
    private static final class Sender {
        private static final int TAPE_MOST = 400;
        private static final int IDLE_SIGN = 188;
        private static final int IDLE_AT_PLUS = 197;
        private static final int IDLE_AT_MINUS = 80;
        private final int[] tape = new int[TAPE_MOST];
        private int taped = 0;
        private int lean = MINUS;
        private int sent = 0;

        /** The caller has seen that it is a symbol and that the line has room for it. */
        int put(int v, boolean sign, Line wire) {
            int group = Code.groupOf(v, sign, lean);
            for (int shift = GROUP_BITS - 1; shift >= 0; shift--) {
                wire.append((group >> shift) & 1);
            }
            lean = Code.behindGroup(group, lean);
            sent++;
            return group;
        }

        boolean putIdle(Line wire) {
            if (!wire.hasRoomFor(2 * GROUP_BITS)) {
                return false;
            }
            int second = lean > 0 ? IDLE_AT_PLUS : IDLE_AT_MINUS;
            put(IDLE_SIGN, true, wire);
            put(second, false, wire);
            return true;
        }

        boolean keepOnTape(int b) {
            if (b < 0 || b > 255 || taped < 0 || taped >= TAPE_MOST) {
                return false;
            }
            tape[taped] = b;
            taped++;
            return true;
        }

        int putFrame(Line wire) {
            int groups = frameGroups();
            if (!wire.hasRoomFor(groups * GROUP_BITS)) {
                return NONE;
            }
            put(FRAME_BEGIN, true, wire);
            for (int i = 0; i < taped && i < TAPE_MOST; i++) {
                put(tape[i], false, wire);
            }
            put(FRAME_CLOSE, true, wire);
            put(FRAME_END, true, wire);
            if ((sent & 1) != 0) {
                put(FRAME_END, true, wire);
            }
            taped = 0;
            return groups;
        }

        /** The last sign comes twice where the groups sent would be odd without. */
        private int frameGroups() {
            int groups = taped + 3;
            return groups + ((sent + groups) & 1);
        }
    }

    /** The receiving end: where groups begin, and how far that is to be trusted. */
    private static final class Receiver {
        private static final int IN_STEP = 3;
        private static final int TRUST_MOST = 4;
        private static final int GOOD_FOR_TRUST = 4;
        private final SymbolLog log = new SymbolLog();
        private final FrameShelf shelf = new FrameShelf();
        private int window = 0;
        private int windowBits = 0;
        private boolean even = false;
        private int lean = MINUS;
        private int rank = 0;
        private int faith = 0;
        private int goodInRow = 0;
        private int groups = 0;
        private int badGroups = 0;
        private int searches = 0;

        void accept(int b) {
            window = ((window << 1) | (b & 1)) & GROUP_MASK;
            if (windowBits < GROUP_BITS) {
                windowBits++;
            }
            if (windowBits < GROUP_BITS) {
                return;
            }
            boolean comma = Code.isComma(window);
            if (rank > 0) {
                laterGroup(readGroup(), comma);
            } else if (comma) {
                lean = Code.leanBeforeComma(window);
                firstGroup(readGroup());
            }
        }

        private void firstGroup(int what) {
            even = true;
            if (what == NONE) {
                searchAgain();
            } else {
                rank = 1;
            }
        }

        private void laterGroup(int what, boolean comma) {
            even = !even;
            boolean fault = what == NONE || (comma && !even);
            if (rank < IN_STEP) {
                climb(comma, fault);
            } else {
                log.keep(what);
                shelf.look(what);
                weigh(fault);
            }
        }

        /** The symbol in the window, NONE if it is bad. */
        private int readGroup() {
            int what = Code.symbolOf(window, lean);
            lean = Code.behindGroup(window, lean);
            windowBits = 0;
            groups++;
            if (what == NONE) {
                badGroups++;
            }
            return what;
        }

        private void climb(boolean comma, boolean fault) {
            if (fault) {
                searchAgain();
            } else if (comma) {
                rank++;
                faith = rank == IN_STEP ? TRUST_MOST : 0;
                goodInRow = 0;
            }
        }

        private void weigh(boolean fault) {
            if (fault) {
                goodInRow = 0;
                faith--;
                if (faith == 0) {
                    searchAgain();
                }
                return;
            }
            goodInRow++;
            if (goodInRow == GOOD_FOR_TRUST) {
                goodInRow = 0;
                faith = Math.min(faith + 1, TRUST_MOST);
            }
        }

        private void searchAgain() {
            rank = 0;
            faith = 0;
            searches++;
            shelf.lose();
        }
    }

    /** The latest symbols received, in a row that is written round and round. */
    private static final class SymbolLog {
        private static final int MOST = 100;
        private static final int BAD = 512;
        private final int[] row = new int[MOST];
        private int next = 0;
        private int kept = 0;
        private int received = 0;

        void keep(int what) {
            if (next < 0 || next >= MOST) {
                return;
            }
            row[next] = what == NONE ? BAD : what;
            next = (next + 1) % MOST;
            kept = Math.min(kept + 1, MOST);
            received++;
        }

        int latest(int k) {
            if (k < 0 || k >= kept) {
                return NONE;
            }
            int place = next - 1 - k;
            if (place < 0) {
                place += MOST;
            }
            return place >= 0 && place < MOST ? row[place] : NONE;
        }
    }

    /**
     * The frames that have ended, and the one that is under way. That one is written into the
     * slot behind the newest ended one (round the row's end), so ending it moves no bytes: hence
     * one slot more than frames are kept.
     */
    private static final class FrameShelf {
        private static final int MOST = 40;
        private static final int SLOTS = MOST + 1;
        private static final int BYTES_MOST = 300;
        /** Four bytes share an int, so that a new object stays small. */
        private static final int SLOT_WORDS = BYTES_MOST / 4;
        private static final int NO_FRAME = 0;
        private static final int OPEN = 1;
        private static final int CLOSED = 2;
        private final int[] words = new int[SLOTS * SLOT_WORDS];
        private final int[] lengths = new int[SLOTS];
        private final boolean[] wholes = new boolean[SLOTS];
        private int slot = 0;
        private int kept = 0;
        private int state = NO_FRAME;
        private boolean broken = false;
        private int ended = 0;
        private int endedWhole = 0;

        /** A symbol received, NONE for a bad group. */
        void look(int what) {
            if (state == CLOSED) {
                finish(what == SIGN + FRAME_END && !broken);
            }
            if (what == SIGN + FRAME_BEGIN) {
                lose();
                begin();
            } else if (state == OPEN) {
                lookInside(what);
            }
        }

        private void lookInside(int what) {
            if (what == NONE) {
                broken = true;
            } else if (what < SIGN) {
                addByte(what);
            } else if (what == SIGN + FRAME_CLOSE) {
                state = CLOSED;
            } else {
                finish(false);
            }
        }

        /** A frame that is under way, if there is one, ends as broken. */
        void lose() {
            if (state != NO_FRAME) {
                finish(false);
            }
        }

        private void begin() {
            if (slot < 0 || slot >= SLOTS) {
                return;
            }
            lengths[slot] = 0;
            broken = false;
            state = OPEN;
        }

        private void addByte(int b) {
            if (slot < 0 || slot >= SLOTS) {
                return;
            }
            int i = lengths[slot];
            if (i < 0 || i >= BYTES_MOST) {
                broken = true;
                return;
            }
            int word = slot * SLOT_WORDS + (i >> 2);
            int shift = (i & 3) * 8;
            words[word] = (words[word] & ~(255 << shift)) | ((b & 255) << shift);
            lengths[slot] = i + 1;
        }

        private void finish(boolean asWhole) {
            if (slot < 0 || slot >= SLOTS) {
                return;
            }
            wholes[slot] = asWhole;
            slot = slot + 1 < SLOTS ? slot + 1 : 0;
            state = NO_FRAME;
            ended++;
            if (asWhole) {
                endedWhole++;
            }
            if (kept < MOST) {
                kept++;
            }
        }

        /** The slot of the k-th kept frame; floorMod makes it an index whatever k is. */
        private int slotOf(int k) {
            return Math.floorMod(slot - kept + k, SLOTS);
        }

        private boolean has(int k) {
            return k >= 0 && k < kept;
        }

        int lengthOf(int k) {
            return has(k) ? lengths[slotOf(k)] : NONE;
        }

        boolean isWhole(int k) {
            return has(k) && wholes[slotOf(k)];
        }

        int byteOf(int k, int i) {
            if (i < 0 || i >= BYTES_MOST || i >= lengthOf(k)) {
                return NONE;
            }
            int word = slotOf(k) * SLOT_WORDS + (i >> 2);
            return (words[word] >> ((i & 3) * 8)) & 255;
        }
    }
}
