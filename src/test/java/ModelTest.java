import java.util.Random;

/** Long runs of calls, chosen by a seeded source, answered by the program and by PlainModel. */
public final class ModelTest {
    private static final int RUNS = 3000;
    private static final int CALLS = 512;
    private static final int[] EDGES = {
        -1, 0, 1, 2, 39, 40, 41, 99, 100, 101, 255, 256, 299, 300, 400, 7999, 8000, 8001,
        Integer.MIN_VALUE, Integer.MAX_VALUE
    };

    private final Check check = new Check();
    private final Random random;
    private final int seed;
    private final CodedGroups x = new CodedGroups();
    private final PlainModel m = new PlainModel();
    private int calls = 0;

    private ModelTest(int seed) {
        this.seed = seed;
        this.random = new Random(seed);
    }

    public static void main(String[] args) {
        int wrongRuns = 0;
        for (int seed = 0; seed < RUNS && wrongRuns < 5; seed++) {
            ModelTest run = new ModelTest(seed);
            run.go();
            if (run.check.anyWrong()) {
                wrongRuns++;
            }
        }
        System.out.println(wrongRuns + " runs with wrong answers");
        if (wrongRuns > 0) {
            System.exit(1);
        }
    }

    private void due(String call, long got, long want) {
        calls++;
        check.due("run " + seed + ", call " + calls + ": " + call, got, want);
    }

    private void due(String call, boolean got, boolean want) {
        due(call, got ? 1 : 0, want ? 1 : 0);
    }

    private int number(int below) {
        return random.nextInt(12) == 0 ? EDGES[random.nextInt(EDGES.length)] : random.nextInt(Math.max(1, below));
    }

    private void go() {
        int kind = seed % 6;
        if (kind != 0) {
            startInStep();
        }
        while (calls < CALLS - 40 && !check.anyWrong()) {
            switch (kind) {
                case 0: anyCall(); break;
                case 1: frames(); break;
                case 2: faults(); break;
                case 3: longFrames(); break;
                case 4: signs(); break;
                default: mixed(); break;
            }
        }
        while (calls < CALLS) {
            ask();
        }
    }

    private void startInStep() {
        for (int i = 0; i < 3; i++) {
            due("idle()", x.idle(), m.idle());
        }
        take(8000);
    }

    private void take(int n) {
        due("take(" + n + ")", x.take(n), m.take(n));
        due("level()", x.level(), m.level());
        due("trust()", x.trust(), m.trust());
    }

    private void send(int v, boolean sign) {
        due("send(" + v + ", " + sign + ")", x.send(v, sign), m.send(v, sign));
    }

    private void damage() {
        int i = number(m.line.length());
        if (random.nextInt(3) > 0) {
            due("turn(" + i + ")", x.turn(i), m.turn(i));
        } else if (random.nextInt(2) == 0) {
            due("drop(" + i + ")", x.drop(i), m.drop(i));
        } else {
            int b = random.nextInt(2);
            due("bit(" + b + ")", x.bit(b), m.bit(b));
        }
    }

    private void frames() {
        int bytes = random.nextInt(4);
        for (int i = 0; i < bytes; i++) {
            int b = number(256);
            due("feed(" + b + ")", x.feed(b), m.feed(b));
        }
        due("frame()", x.frame(), m.frame());
        if (random.nextInt(8) == 0) {
            damage();
        }
        if (random.nextInt(3) == 0) {
            due("idle()", x.idle(), m.idle());
        }
        if (random.nextInt(4) == 0) {
            take(random.nextInt(4) == 0 ? number(200) : 8000);
            ask();
        }
    }

    private void faults() {
        for (int i = random.nextInt(6); i > 0; i--) {
            due("idle()", x.idle(), m.idle());
        }
        for (int i = random.nextInt(3); i > 0; i--) {
            damage();
        }
        if (random.nextInt(3) == 0) {
            send(random.nextInt(256), false);
        }
        if (random.nextInt(5) == 0) {
            due("frame()", x.frame(), m.frame());
        }
        take(random.nextInt(3) == 0 ? number(80) : 8000);
        ask();
    }

    private void longFrames() {
        int bytes = 290 + random.nextInt(115);
        for (int i = 0; i < bytes && calls < CALLS - 60; i++) {
            int b = random.nextInt(256);
            due("feed(" + b + ")", x.feed(b), m.feed(b));
        }
        due("frame()", x.frame(), m.frame());
        take(8000);
        ask();
    }

    private void signs() {
        int[] some = {251, 251, 253, 253, 247, 247, 188, 60, 252, 28, 254, 124};
        if (random.nextInt(3) > 0) {
            send(some[random.nextInt(some.length)], true);
        } else {
            send(number(256), random.nextInt(10) == 0);
        }
        if (random.nextInt(30) == 0) {
            damage();
        }
        if (m.line.length() > 60 || random.nextInt(6) == 0) {
            take(8000);
            ask();
        }
        if (m.level() < 3) {
            due("idle()", x.idle(), m.idle());
        }
    }

    private void mixed() {
        switch (random.nextInt(4)) {
            case 0: frames(); break;
            case 1: faults(); break;
            case 2: signs(); break;
            default: anyCall(); break;
        }
    }

    private void anyCall() {
        int i = number(m.line.length() + 2);
        switch (random.nextInt(9)) {
            case 0: send(number(256), random.nextInt(2) == 0); break;
            case 1: due("idle()", x.idle(), m.idle()); break;
            case 2: due("feed(" + i + ")", x.feed(i), m.feed(i)); break;
            case 3: due("frame()", x.frame(), m.frame()); break;
            case 4: due("bit(" + i + ")", x.bit(i), m.bit(i)); break;
            case 5: damage(); break;
            case 6: due("drop(" + i + ")", x.drop(i), m.drop(i)); break;
            case 7: if (random.nextInt(20) == 0) { take(i); } break;
            default: ask(); break;
        }
    }

    private void ask() {
        int k = number(45);
        int i = number(12);
        int which = number(9);
        switch (random.nextInt(9)) {
            case 0: due("line(" + k + ")", x.line(k), m.line(k)); break;
            case 1: due("size()", x.size(), m.line.length()); break;
            case 2: due("disparity(" + which % 3 + ")", x.disparity(which % 3), m.disparity(which % 3)); break;
            case 3: due("symbol(" + k + ")", x.symbol(k), m.symbol(k)); break;
            case 4: due("length(" + k + ")", x.length(k), m.length(k)); break;
            case 5: due("whole(" + k + ")", x.whole(k), m.whole(k)); break;
            case 6: due("at(" + k + ", " + i + ")", x.at(k, i), m.at(k, i)); break;
            case 7: decode(); break;
            default: due("count(" + which + ")", x.count(which), m.count(which)); break;
        }
    }

    private void decode() {
        int group = number(1030);
        int lean = random.nextInt(5) == 0 ? number(3) : random.nextInt(2) * 2 - 1;
        due("decode(" + group + ", " + lean + ")", x.decode(group, lean), m.decode(group, lean));
    }
}
