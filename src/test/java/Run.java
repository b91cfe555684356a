/**
 * An object of the program with the steps that tests have in common. It counts its calls, for the
 * document promises nothing beyond 512 of them.
 */
final class Run {
    private static final int CALLS_MOST = 512;
    private final CodedGroups x = new CodedGroups();
    private final Check check;
    private int calls = 0;

    Run(Check check) {
        this.check = check;
    }

    /** Level 3, trust 4, both disparities -, the next group at an even place, one symbol received. */
    static Run inStep(Check check) {
        Run run = new Run(check).idles(3).takeAll();
        check.due("level() behind three commas", run.level(), 3);
        return run;
    }

    int callsLeft() {
        return CALLS_MOST - calls;
    }

    private CodedGroups call() {
        calls++;
        if (calls > CALLS_MOST) {
            throw new IllegalStateException("a test asks one object more than it promises to answer");
        }
        return x;
    }

    int send(int v, boolean sign) {
        return call().send(v, sign);
    }

    boolean idle() {
        return call().idle();
    }

    boolean feed(int b) {
        return call().feed(b);
    }

    int frame() {
        return call().frame();
    }

    boolean bit(int b) {
        return call().bit(b);
    }

    boolean turn(int i) {
        return call().turn(i);
    }

    boolean drop(int i) {
        return call().drop(i);
    }

    int line(int i) {
        return call().line(i);
    }

    int size() {
        return call().size();
    }

    int disparity(int which) {
        return call().disparity(which);
    }

    int take(int n) {
        return call().take(n);
    }

    int level() {
        return call().level();
    }

    int trust() {
        return call().trust();
    }

    int symbol(int k) {
        return call().symbol(k);
    }

    int length(int k) {
        return call().length(k);
    }

    boolean whole(int k) {
        return call().whole(k);
    }

    int at(int k, int i) {
        return call().at(k, i);
    }

    int decode(int group, int disparity) {
        return call().decode(group, disparity);
    }

    int count(int what) {
        return call().count(what);
    }

    /** Bits behind the line, spaces left out. */
    Run bits(String some) {
        for (char c : some.toCharArray()) {
            if (c != ' ') {
                check.due("bit(" + c + ")", bit(c - '0'), true);
            }
        }
        return this;
    }

    Run idles(int n) {
        for (int i = 0; i < n; i++) {
            check.due("idle()", idle(), true);
        }
        return this;
    }

    Run sign(int... signs) {
        for (int v : signs) {
            check.due("send(" + v + ", true)", send(v, true) >= 0, true);
        }
        return this;
    }

    Run plain(int... bytes) {
        for (int v : bytes) {
            check.due("send(" + v + ", false)", send(v, false) >= 0, true);
        }
        return this;
    }

    /** 74, whose group is 0101010101 with both disparities and leaves each as it was. */
    Run good(int n) {
        for (int i = 0; i < n; i++) {
            check.due("send(74, false)", send(74, false), 0b0101010101);
        }
        return this;
    }

    /** A group that is none with either disparity, and leaves it -: its four are 0000. */
    Run bad() {
        return bits("1111110000");
    }

    Run bad(int n) {
        for (int i = 0; i < n; i++) {
            bad();
        }
        return this;
    }

    /** So many bytes onto the tape: from, from + 1, and so on, behind 250 from 0 on. */
    Run feeds(int n, int from) {
        for (int i = 0; i < n; i++) {
            check.due("feed", feed((from + i) % 251), true);
        }
        return this;
    }

    /** Each is four groups long, as long as the tape is empty and even many groups were sent. */
    Run emptyFrames(int n) {
        for (int i = 0; i < n; i++) {
            check.due("an empty frame()", frame(), 4);
        }
        return this;
    }

    /** An empty line gets so many bits, with few calls, under the same terms. */
    Run fill(int bits) {
        emptyFrames(bits / 40);
        for (int i = 0; i < bits % 40; i++) {
            bits(i % 2 == 0 ? "0" : "1");
        }
        return this;
    }

    Run takeAll() {
        int n = size();
        check.due("take(8000)", take(8000), n);
        return this;
    }
}
