import java.util.ArrayList;
import java.util.List;
import java.util.function.Consumer;
import java.util.function.ToIntFunction;

/**
 * All that questions can tell of an object. One object answers 512 calls and no more, so the run
 * of calls that made it is made again, as often as there are questions left.
 */
final class State {
    private final Check check;
    private final Consumer<Run> made;
    private final List<String> told = new ArrayList<>();
    private Run run;

    private State(Check check, Consumer<Run> made) {
        this.check = check;
        this.made = made;
        this.run = again();
    }

    static List<String> of(Check check, Consumer<Run> made) {
        State state = new State(check, made);
        state.tellEnds();
        state.tellLine();
        state.tellSymbols();
        state.tellFrames();
        return state.told;
    }

    /** One answer that stands for all, where two states are not the same. */
    static void same(Check check, String what, List<String> got, List<String> want) {
        if (!got.equals(want)) {
            for (int i = 0; i < Math.max(got.size(), want.size()); i++) {
                String one = i < got.size() ? got.get(i) : "nothing";
                String other = i < want.size() ? want.get(i) : "nothing";
                if (!one.equals(other)) {
                    System.out.println(what + ": it is [" + one + "], due is [" + other + "]");
                }
            }
        }
        check.due(what, got.equals(want), true);
    }

    private Run again() {
        Run fresh = new Run(check);
        made.accept(fresh);
        return fresh;
    }

    private int ask(ToIntFunction<Run> question) {
        if (run.callsLeft() == 0) {
            run = again();
        }
        return question.applyAsInt(run);
    }

    private void tell(String what, int answer) {
        told.add(what + " " + answer);
    }

    private void tellEnds() {
        tell("level", ask(Run::level));
        tell("trust", ask(Run::trust));
        for (int which = 0; which < 2; which++) {
            int end = which;
            tell("disparity " + which, ask(r -> r.disparity(end)));
        }
        for (int what = 0; what < 8; what++) {
            int one = what;
            tell("count " + what, ask(r -> r.count(one)));
        }
    }

    private void tellLine() {
        int size = ask(Run::size);
        tell("size", size);
        StringBuilder bits = new StringBuilder("line ");
        for (int i = 0; i < size; i++) {
            int place = i;
            bits.append(ask(r -> r.line(place)));
        }
        told.add(bits.toString());
    }

    private void tellSymbols() {
        StringBuilder all = new StringBuilder("symbols");
        for (int k = 0; k <= 100; k++) {
            int one = k;
            all.append(' ').append(ask(r -> r.symbol(one)));
        }
        told.add(all.toString());
    }

    private void tellFrames() {
        for (int k = 0; k <= 40; k++) {
            int one = k;
            int length = ask(r -> r.length(one));
            int whole = ask(r -> r.whole(one) ? 1 : 0);
            StringBuilder frame = new StringBuilder("frame " + k + " length " + length + " whole " + whole + ":");
            for (int i = 0; i <= length; i++) {
                int place = i;
                frame.append(' ').append(ask(r -> r.at(one, place)));
            }
            told.add(frame.toString());
        }
    }
}
