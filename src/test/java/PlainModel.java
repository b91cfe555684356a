import java.util.ArrayList;
import java.util.HashMap;
import java.util.List;
import java.util.Map;

/**
 * The document once more, with texts and maps where the program has numbers and rows, so that a
 * slip in one is seen against the other.
 */
final class PlainModel {
    private static final String SIX = "100111/011000 011101/100010 101101/010010 110001 110101/001010 101001 011001"
        + " 111000/000111 111001/000110 100101 010101 110100 001101 101100 011100 010111/101000 011011/100100 100011"
        + " 010011 110010 001011 101010 011010 111010/000101 110011/001100 100110 010110 110110/001001 001110"
        + " 101110/010001 011110/100001 101011/010100";
    private static final String FOUR = "1011/0100 1001 0101 1100/0011 1101/0010 1010 0110 1110/0001";
    private static final String SIGN_FOUR = "1011/0100 0110/1001 1010/0101 1100/0011 1101/0010 0101/1010 1001/0110 0111/1000";

    private static final Map<String, Integer> MINUS = groupsWith(-1);
    private static final Map<String, Integer> PLUS = groupsWith(1);

    private static final class Frame {
        final List<Integer> bytes = new ArrayList<>();
        boolean broken = false;
        boolean closed = false;
        boolean whole = false;
    }

    String line = "";
    final List<Integer> tape = new ArrayList<>();
    int sendLean = -1;
    int sent = 0;

    private String pending = "";
    private int takeLean = -1;
    private int place = 0;
    private int level = 0;
    private int trust = 0;
    private int row = 0;
    private int groups = 0;
    private int bad = 0;
    private int searches = 0;
    private final List<Integer> symbols = new ArrayList<>();
    private final List<Frame> frames = new ArrayList<>();
    private Frame open = null;

    static String form(String table, int place, int lean) {
        String[] forms = table.split(" ")[place].split("/");
        return lean < 0 || forms.length == 1 ? forms[0] : forms[1];
    }

    static boolean isSymbol(int v, boolean sign) {
        if (v < 0 || v > 255) {
            return false;
        }
        return !sign || v % 32 == 28 || List.of(247, 251, 253, 254).contains(v);
    }

    static int behind(String part, int lean) {
        long ones = part.chars().filter(c -> c == '1').count();
        long zeros = part.length() - ones;
        if (ones > zeros || part.equals("000111") || part.equals("0011")) {
            return 1;
        }
        if (ones < zeros || part.equals("111000") || part.equals("1100")) {
            return -1;
        }
        return lean;
    }

    static int behindGroup(String group, int lean) {
        return behind(group.substring(6), behind(group.substring(0, 6), lean));
    }

    static String group(int v, boolean sign, int lean) {
        int x = v % 32;
        int y = v / 32;
        String six = sign && x == 28 ? (lean < 0 ? "001111" : "110000") : form(SIX, x, lean);
        int mid = behind(six, lean);
        String four = form(sign ? SIGN_FOUR : FOUR, y, mid);
        if (!sign && y == 7 && mid < 0 && List.of(17, 18, 20).contains(x)) {
            four = "0111";
        }
        if (!sign && y == 7 && mid > 0 && List.of(11, 13, 14).contains(x)) {
            four = "1000";
        }
        return six + four;
    }

    private static Map<String, Integer> groupsWith(int lean) {
        Map<String, Integer> all = new HashMap<>();
        for (int what = 0; what < 512; what++) {
            int v = what % 256;
            boolean sign = what >= 256;
            if (isSymbol(v, sign) && all.put(group(v, sign, lean), what) != null) {
                throw new IllegalStateException("two symbols have one group: " + what);
            }
        }
        return all;
    }

    int decode(int group, int lean) {
        if (group < 0 || group > 1023 || (lean != -1 && lean != 1)) {
            return -1;
        }
        String bits = Integer.toBinaryString(1024 + group).substring(1);
        return (lean < 0 ? MINUS : PLUS).getOrDefault(bits, -1);
    }

    private boolean room(int bits) {
        return line.length() + bits <= 8000;
    }

    int send(int v, boolean sign) {
        if (!isSymbol(v, sign) || !room(10)) {
            return -1;
        }
        String group = group(v, sign, sendLean);
        line += group;
        sendLean = behindGroup(group, sendLean);
        sent++;
        return Integer.parseInt(group, 2);
    }

    boolean idle() {
        if (!room(20)) {
            return false;
        }
        int second = sendLean > 0 ? 197 : 80;
        send(188, true);
        send(second, false);
        return true;
    }

    boolean feed(int b) {
        if (b < 0 || b > 255 || tape.size() >= 400) {
            return false;
        }
        tape.add(b);
        return true;
    }

    int frame() {
        int groups = tape.size() + 3;
        if ((sent + groups) % 2 == 1) {
            groups++;
        }
        if (!room(10 * groups)) {
            return -1;
        }
        int before = sent;
        send(251, true);
        for (int b : tape) {
            send(b, false);
        }
        send(253, true);
        while (sent < before + groups) {
            send(247, true);
        }
        tape.clear();
        return groups;
    }

    boolean bit(int b) {
        if (b < 0 || b > 1 || !room(1)) {
            return false;
        }
        line += b;
        return true;
    }

    private boolean has(int i) {
        return i >= 0 && i < line.length();
    }

    boolean turn(int i) {
        if (!has(i)) {
            return false;
        }
        line = line.substring(0, i) + (line.charAt(i) == '1' ? "0" : "1") + line.substring(i + 1);
        return true;
    }

    boolean drop(int i) {
        if (!has(i)) {
            return false;
        }
        line = line.substring(0, i) + line.substring(i + 1);
        return true;
    }

    int line(int i) {
        return has(i) ? line.charAt(i) - '0' : -1;
    }

    int disparity(int which) {
        return which == 0 ? sendLean : which == 1 ? takeLean : 0;
    }

    int take(int n) {
        if (n < 0 || n > 8000) {
            return -1;
        }
        int taken = Math.min(n, line.length());
        for (char c : line.substring(0, taken).toCharArray()) {
            pending += c;
            if (level == 0) {
                search();
            } else if (pending.length() == 10) {
                go(pending);
            }
        }
        line = line.substring(taken);
        return taken;
    }

    private static boolean comma(String group) {
        return group.startsWith("0011111") || group.startsWith("1100000");
    }

    private void search() {
        if (pending.length() > 10) {
            pending = pending.substring(1);
        }
        if (pending.length() == 10 && comma(pending)) {
            String group = pending;
            takeLean = group.startsWith("0") ? -1 : 1;
            place = 0;
            level = 1;
            if (read(group) < 0) {
                again();
            }
        }
    }

    private int read(String group) {
        int what = decode(Integer.parseInt(group, 2), takeLean);
        takeLean = behindGroup(group, takeLean);
        groups++;
        bad += what < 0 ? 1 : 0;
        pending = "";
        return what;
    }

    private void go(String group) {
        place++;
        int what = read(group);
        boolean fault = what < 0 || (comma(group) && place % 2 == 1);
        if (level < 3) {
            if (fault) {
                again();
            } else if (comma(group)) {
                level++;
                trust = level == 3 ? 4 : 0;
                row = 0;
            }
            return;
        }
        symbols.add(what < 0 ? 512 : what);
        frameGoes(what);
        if (fault) {
            row = 0;
            trust--;
            if (trust == 0) {
                again();
            }
        } else if (++row % 4 == 0 && trust < 4) {
            trust++;
        }
    }

    private void again() {
        level = 0;
        trust = 0;
        searches++;
        pending = "";
        if (open != null) {
            ends(false);
        }
    }

    private void ends(boolean whole) {
        open.whole = whole;
        frames.add(open);
        open = null;
    }

    private void frameGoes(int what) {
        if (open != null && open.closed) {
            ends(what == 256 + 247 && !open.broken);
        }
        if (what == 256 + 251) {
            if (open != null) {
                ends(false);
            }
            open = new Frame();
        } else if (open == null) {
            return;
        } else if (what < 0) {
            open.broken = true;
        } else if (what < 256 && open.bytes.size() == 300) {
            open.broken = true;
        } else if (what < 256) {
            open.bytes.add(what);
        } else if (what == 256 + 253) {
            open.closed = true;
        } else {
            ends(false);
        }
    }

    int level() {
        return level;
    }

    int trust() {
        return trust;
    }

    int symbol(int k) {
        return k < 0 || k >= 100 || k >= symbols.size() ? -1 : symbols.get(symbols.size() - 1 - k);
    }

    private Frame kept(int k) {
        int count = Math.min(40, frames.size());
        return k < 0 || k >= count ? null : frames.get(frames.size() - count + k);
    }

    int length(int k) {
        return kept(k) == null ? -1 : kept(k).bytes.size();
    }

    boolean whole(int k) {
        return kept(k) != null && kept(k).whole;
    }

    int at(int k, int i) {
        return i < 0 || i >= length(k) ? -1 : kept(k).bytes.get(i);
    }

    int count(int what) {
        switch (what) {
            case 0: return sent;
            case 1: return groups;
            case 2: return bad;
            case 3: return searches;
            case 4: return Math.min(40, frames.size());
            case 5: return frames.size();
            case 6: return (int) frames.stream().filter(f -> f.whole).count();
            case 7: return symbols.size();
            default: return -1;
        }
    }
}
