/** The whole code: every symbol sent with both disparities, every group decoded with both. */
public final class CodeTest {
    private static final Check CHECK = new Check();

    public static void main(String[] args) {
        everySymbolSent();
        everyGroupDecoded();
        noSuchNumbers();
        CHECK.end();
    }

    /** 32 with - leaves +; nothing sent leaves -. */
    private static CodedGroups leaning(int lean) {
        CodedGroups x = new CodedGroups();
        if (lean > 0) {
            x.send(32, false);
        }
        CHECK.due("disparity(0)", x.disparity(0), lean);
        return x;
    }

    private static void everySymbolSent() {
        for (int what = 0; what < 1024; what++) {
            int v = what % 256;
            boolean sign = what % 512 >= 256;
            int lean = what < 512 ? -1 : 1;
            CodedGroups x = leaning(lean);
            String call = "send(" + v + ", " + sign + ") with " + lean;
            if (!PlainModel.isSymbol(v, sign)) {
                CHECK.due(call, x.send(v, sign), -1);
                CHECK.due("size() behind " + call, x.size(), lean < 0 ? 0 : 10);
                continue;
            }
            String group = PlainModel.group(v, sign, lean);
            int number = Integer.parseInt(group, 2);
            CHECK.due(call, x.send(v, sign), number);
            CHECK.due("disparity(0) behind " + call, x.disparity(0), PlainModel.behindGroup(group, lean));
            CHECK.due("decode of " + call, x.decode(number, lean), sign ? v + 256 : v);
            int from = lean < 0 ? 0 : 10;
            for (int i = 0; i < 10; i++) {
                CHECK.due("line behind " + call, x.line(from + i), group.charAt(i) - '0');
            }
        }
    }

    private static void everyGroupDecoded() {
        CodedGroups x = new CodedGroups();
        PlainModel m = new PlainModel();
        int[] found = new int[2];
        for (int group = 0; group < 1024; group++) {
            if (group % 256 == 0) {
                x = new CodedGroups(); // an object is good for 512 calls
            }
            for (int lean = -1; lean <= 1; lean += 2) {
                int got = x.decode(group, lean);
                CHECK.due("decode(" + group + ", " + lean + ")", got, m.decode(group, lean));
                found[lean < 0 ? 0 : 1] += got >= 0 ? 1 : 0;
            }
        }
        CHECK.due("groups of symbols with -", found[0], 256 + 12);
        CHECK.due("groups of symbols with +", found[1], 256 + 12);
    }

    private static void noSuchNumbers() {
        CodedGroups x = new CodedGroups();
        int[] groups = {-1, 1024, 250 + 1024, 250 - 1024, Integer.MIN_VALUE, Integer.MAX_VALUE};
        for (int group : groups) {
            CHECK.due("decode(" + group + ", -1)", x.decode(group, -1), -1);
            CHECK.due("decode(" + group + ", 1)", x.decode(group, 1), -1);
        }
        int[] leans = {0, 2, -2, Integer.MIN_VALUE, Integer.MAX_VALUE};
        for (int lean : leans) {
            CHECK.due("decode(341, " + lean + ")", x.decode(341, lean), -1);
        }
    }
}
