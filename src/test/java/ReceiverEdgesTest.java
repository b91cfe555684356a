import java.util.List;

/**
 * The receiver at the edges that the document names (promises 1, 11 to 15 and 20): each test is
 * one of its sentences, looked at from both sides.
 */
public final class ReceiverEdgesTest {
    private static final int MIN = Integer.MIN_VALUE;
    private static final int MAX = Integer.MAX_VALUE;
    private static final Check CHECK = new Check();

    public static void main(String[] args) {
        searchesAtFirst();
        searchesWithNineBitsOrTen();
        latestTenBitsMove();
        commaIsSevenBits();
        bitsTakenBeforeItSearchesDoNotCount();
        bitsOfABadFirstGroupDoNotCount();
        bitsOfALostGroupDoNotCount();
        firstGroupGoesByItsComma();
        disparityStaysWhileItSearches();
        firstPlaceIsEven();
        eachTenBitsAreAGroup();
        badGroupAtLevels1And2();
        commaAtOddPlaceAtLevels1And2();
        commaAtEvenPlaceIsALevelMore();
        badCommaAtEvenPlaceIsNoLevelMore();
        levelIs3AtMost();
        trustIs4AtFirst();
        trustFromFourToNone();
        commasAtOddPlacesTakeTrust();
        trustIsInStepAlone();
        fourthGoodOneGivesOneBack();
        eachFourthGivesOneBack();
        trustIs4AtMost();
        rowEndsWithABadGroup();
        rowEndsWithACommaAtAnOddPlace();
        commaAtAnEvenPlaceIsInTheRow();
        trustOf1MayBeGainedOrLost();
        rowBeginsAnewWithANewStep();
        everyGroupInStep();
        groupThatBringsLevel3IsNotReceived();
        receivedBeforeTrustIsLookedAt();
        symbolsOutOfStepAreNotReceived();
        symbolOfNone();
        symbolsOf100Alone();
        badGroupsAreAmongThe100();
        symbolsStayWhenItSearchesAgain();
        groupsTakenAreCounted();
        badOnesAreCounted();
        searchesAreCounted();
        CHECK.end();
    }

    private static void due(String what, long got, long want) {
        CHECK.due(what, got, want);
    }

    private static Run inStep() {
        return Run.inStep(CHECK);
    }

    /** Taken bits, told at what level they leave the receiver. */
    private static void dueLevel(String bits, int level) {
        Run x = new Run(CHECK).bits(bits).takeAll();
        due("level() behind " + bits, x.level(), level);
    }

    private static void dueTrust(String what, Run x, int trust) {
        x.takeAll();
        due("trust() behind " + what, x.trust(), trust);
        due("level() behind " + what, x.level(), trust == 0 ? 0 : 3);
    }

    // "it searches"
    private static void searchesAtFirst() {
        Run x = new Run(CHECK);
        due("level() at first", x.level(), 0);
        due("trust() at first", x.trust(), 0);
        due("count(3): that is not again", x.count(3), 0);
        x.good(5).takeAll();
        due("level() behind five groups without a comma", x.level(), 0);
        due("count(1) behind them", x.count(1), 0);
        due("count(2) behind them", x.count(2), 0);
        due("count(3) behind them", x.count(3), 0);
    }

    // "as soon as the latest ten bits"
    private static void searchesWithNineBitsOrTen() {
        Run x = new Run(CHECK).bits("0011111010");
        due("take(7): a comma alone", x.take(7), 7);
        due("level() behind seven bits", x.level(), 0);
        due("take(2)", x.take(2), 2);
        due("level() behind nine bits", x.level(), 0);
        due("count(1) behind nine bits", x.count(1), 0);
        due("take(1)", x.take(1), 1);
        due("level() behind ten bits", x.level(), 1);
        due("count(1) behind ten bits", x.count(1), 1);
    }

    private static void latestTenBitsMove() {
        for (int before = 0; before <= 25; before++) {
            String lead = "01".repeat(13).substring(0, before);
            for (String group : List.of("0011111010", "1100000101")) {
                dueLevel(lead + group.substring(0, 9), 0);
                Run x = new Run(CHECK).bits(lead + group).takeAll();
                due("level() with a group behind " + before, x.level(), 1);
                due("count(1) of that one alone", x.count(1), 1);
                due("count(2)", x.count(2), 0);
            }
        }
    }

    // "A COMMA is 0011111 or 1100000 as the first seven bits of a group"
    private static void commaIsSevenBits() {
        for (int first = 0; first < 128; first++) {
            String seven = Integer.toBinaryString(128 + first).substring(1);
            boolean comma = seven.equals("0011111") || seven.equals("1100000");
            Run x = new Run(CHECK).bits(seven + "010").takeAll();
            due("count(1) behind " + seven + "010", x.count(1), comma ? 1 : 0);
        }
        dueLevel("0011110101", 0);
        dueLevel("1100001010", 0);
        dueLevel("0111110101", 0);
        dueLevel("1001111101", 0);
        dueLevel("1001111101 0", 1);
    }

    // "(taken since it searches)"
    private static void bitsTakenBeforeItSearchesDoNotCount() {
        dueLevel("0011111010 1111110000 11111010", 0);
        dueLevel("1111110000 11111010", 1);
        Run x = new Run(CHECK).bits("0011111010 1111110000").takeAll().bits("001111101").takeAll();
        due("level() with nine bits since it searches", x.level(), 0);
        x.bits("0").takeAll();
        due("level() with ten", x.level(), 1);
    }

    // "if that is bad, it searches again, from the bits behind it on"
    private static void bitsOfABadFirstGroupDoNotCount() {
        dueLevel("0011111100", 0);
        dueLevel("0011111100 00010110", 0);
        dueLevel("1100000000", 0);
        dueLevel("1100000000 11111010", 0);
        dueLevel("1100000000 0011111010", 1);
        Run x = new Run(CHECK).bits("0011111111").takeAll();
        due("count(1) behind a bad first group", x.count(1), 1);
        due("count(2) behind it", x.count(2), 1);
        due("count(3) behind it", x.count(3), 1);
        x.bits("0011111010").takeAll();
        due("level() with a good one behind it", x.level(), 1);
        due("count(3) behind that", x.count(3), 1);
    }

    // the same where it searches again from step: the group that took the last trust is gone
    private static void bitsOfALostGroupDoNotCount() {
        Run x = inStep().bad(4).takeAll();
        due("level() behind four bad groups, the last of which ends with 00", x.level(), 0);
        x.bits("11111010").takeAll();
        due("level(): 00 was before it searched", x.level(), 0);
        Run y = inStep().bad(3).good(1).takeAll();
        due("trust() behind three bad groups", y.trust(), 1);
        y.sign(188).takeAll();
        due("a comma at an even place takes none", y.trust(), 1);
        y.sign(188).takeAll();
        due("level() behind a comma at an odd place", y.level(), 0);
        due("count(3): that comma is no first group", y.count(3), 1);
        due("count(1)", y.count(1), 12);
    }

    // "its disparity is - if the comma is 0011111, + if not, before that group"
    private static void firstGroupGoesByItsComma() {
        for (int last = 0; last < 8; last++) {
            String three = Integer.toBinaryString(8 + last).substring(1);
            String four = "1" + three;
            boolean good = four.equals("1001") || four.equals("1010") || four.equals("1000");
            dueLevel("0011111" + three, good ? 1 : 0);
            String other = "0" + three;
            boolean otherGood = other.equals("0110") || other.equals("0101") || other.equals("0111");
            dueLevel("1100000" + three, otherGood ? 1 : 0);
        }
        Run x = new Run(CHECK).bits("0011111010").takeAll();
        due("disparity(1) behind 0011111010", x.disparity(1), 1);
        Run y = new Run(CHECK).bits("0011111000").takeAll();
        due("disparity(1) behind 0011111000", y.disparity(1), -1);
        Run z = new Run(CHECK).bits("1100000101").takeAll();
        due("disparity(1) behind 1100000101", z.disparity(1), -1);
        Run w = new Run(CHECK).bits("1100000111").takeAll();
        due("disparity(1) behind 1100000111", w.disparity(1), 1);
    }

    private static void disparityStaysWhileItSearches() {
        Run x = new Run(CHECK).bits("1111111111").takeAll();
        due("disparity(1) behind ten bits that are no group", x.disparity(1), -1);
        Run y = new Run(CHECK).bits("0011111111").takeAll();
        due("disparity(1) behind a bad first group", y.disparity(1), 1);
        y.bits("0000000000").takeAll();
        due("disparity(1) while it searches", y.disparity(1), 1);
    }

    // "its FIRST one, at an EVEN place", "at places odd and even by turns"
    private static void firstPlaceIsEven() {
        for (int between = 0; between < 7; between++) {
            Run x = new Run(CHECK).sign(188).good(between).sign(188).takeAll();
            boolean even = between % 2 == 1;
            due("level() with " + between + " between two commas", x.level(), even ? 2 : 0);
            due("count(3) with " + between + " between", x.count(3), even ? 0 : 1);
            due("count(2) with " + between + " between", x.count(2), 0);
        }
    }

    // "From then on each ten bits are a group"
    private static void eachTenBitsAreAGroup() {
        Run x = new Run(CHECK).idles(3);
        int[] levels = {1, 1, 2, 2, 3, 3};
        for (int i = 0; i < levels.length; i++) {
            due("take(9)", x.take(9), 9);
            due("count(1) with nine bits more", x.count(1), i);
            due("level() with nine bits more", x.level(), i == 0 ? 0 : levels[i - 1]);
            due("take(1)", x.take(1), 1);
            due("count(1) with ten bits more", x.count(1), i + 1);
            due("level() with ten bits more", x.level(), levels[i]);
        }
        Run inside = new Run(CHECK).bits("0011111000 0011011001").takeAll();
        due("level(): 1100000 across two groups is no comma", inside.level(), 1);
        due("count(3)", inside.count(3), 0);
    }

    // "At levels 1, 2: .. a bad group .. : it searches again"
    private static void badGroupAtLevels1And2() {
        for (int level = 1; level <= 2; level++) {
            for (int good = 0; good < 4; good++) {
                Run x = atLevel(level).good(good).takeAll();
                due("level() behind good ones without a comma", x.level(), level);
                x.bad().takeAll();
                due("level() " + level + " behind a bad one behind " + good, x.level(), 0);
                due("count(3)", x.count(3), 1);
                due("count(2)", x.count(2), 1);
                due("count(7): it was not in step", x.count(7), 0);
            }
        }
    }

    /** The next group is at an odd place. */
    private static Run atLevel(int level) {
        Run x = new Run(CHECK).sign(188);
        for (int i = 1; i < level; i++) {
            x.good(1).sign(188);
        }
        x.takeAll();
        due("level() behind " + level + " commas", x.level(), level);
        return x;
    }

    // ".. or a comma at an odd place: it searches again"
    private static void commaAtOddPlaceAtLevels1And2() {
        for (int level = 1; level <= 2; level++) {
            for (int sign : new int[] {60, 188, 252}) {
                Run x = atLevel(level).sign(sign).takeAll();
                due("level() " + level + " behind the sign " + sign + " at an odd place", x.level(), 0);
                due("count(2): it is good", x.count(2), 0);
                due("count(3)", x.count(3), 1);
            }
            for (int sign : new int[] {28, 92, 124, 156, 220, 247, 251, 253, 254}) {
                Run x = atLevel(level).sign(sign).takeAll();
                due("level() " + level + " behind the sign " + sign + ", no comma", x.level(), level);
            }
        }
    }

    // "a good group with a comma at an even place: one level more"
    private static void commaAtEvenPlaceIsALevelMore() {
        for (int level = 1; level <= 2; level++) {
            for (int sign : new int[] {60, 188, 252}) {
                Run x = atLevel(level).good(1).sign(sign).takeAll();
                due("level() " + level + " behind the sign " + sign + " at an even place", x.level(), level + 1);
            }
            for (int sign : new int[] {28, 92, 124, 156, 220, 247, 251, 253, 254}) {
                Run x = atLevel(level).good(1).sign(sign).takeAll();
                due("level() " + level + " behind the sign " + sign + ", no comma", x.level(), level);
            }
            Run x = atLevel(level).good(1).plain(74).takeAll();
            due("level() " + level + " behind a byte at an even place", x.level(), level);
        }
    }

    private static void badCommaAtEvenPlaceIsNoLevelMore() {
        for (int level = 1; level <= 2; level++) {
            Run x = atLevel(level).good(1).takeAll();
            String wrong = x.disparity(1) > 0 ? "0011111010" : "1100000101";
            x.bits(wrong).takeAll();
            due("level() " + level + " behind a bad comma", x.level(), 0);
            due("count(1): it is no first group", x.count(1), 2 * level + 1);
            due("count(3)", x.count(3), 1);
        }
    }

    // "At level 3 it is in STEP": there is none above it
    private static void levelIs3AtMost() {
        Run x = atLevel(3);
        for (int i = 0; i < 4; i++) {
            x.good(1).sign(188).takeAll();
            due("level() behind a comma more", x.level(), 3);
            due("trust() behind it", x.trust(), 4);
        }
    }

    // "with a TRUST of 4 at first", "The trust in step, else 0"
    private static void trustIs4AtFirst() {
        due("trust() at level 1", atLevel(1).trust(), 0);
        due("trust() at level 2", atLevel(2).trust(), 0);
        due("trust() at level 3", atLevel(3).trust(), 4);
    }

    // "a bad group .. takes 1 off it (0: it searches again)"
    private static void trustFromFourToNone() {
        Run x = inStep();
        for (int left = 3; left >= 0; left--) {
            due("count(3)", x.count(3), 0);
            dueTrust("a bad group more", x.bad(), left);
        }
        due("count(3) behind four", x.count(3), 1);
        x.bad().takeAll();
        due("trust() behind one more", x.trust(), 0);
        due("count(3) behind it", x.count(3), 1);
    }

    // ".. or a comma at an odd place, takes 1 off it"
    private static void commasAtOddPlacesTakeTrust() {
        Run x = inStep();
        for (int left = 3; left >= 0; left--) {
            dueTrust("a comma at an odd place more", x.good(1).sign(188), left);
            due("count(2): they are good", x.count(2), 0);
        }
        due("count(3)", x.count(3), 1);
        Run both = inStep();
        dueTrust("a bad one", both.bad(), 3);
        dueTrust("a comma at an odd place", both.sign(188), 2);
        dueTrust("a comma at an even place", both.sign(188), 2);
        dueTrust("a comma at an odd place again", both.sign(188), 1);
        dueTrust("a bad one again", both.bad(), 0);
    }

    // "The trust in step, else 0"
    private static void trustIsInStepAlone() {
        Run x = inStep().bad(4);
        dueTrust("four bad ones", x, 0);
        x.sign(188).takeAll();
        due("level() again", x.level(), 1);
        due("trust() at level 1 again", x.trust(), 0);
        x.good(1).sign(188).takeAll();
        due("level() again", x.level(), 2);
        due("trust() at level 2 again", x.trust(), 0);
        x.good(1).sign(188).takeAll();
        due("level() again", x.level(), 3);
        due("trust() of a new step", x.trust(), 4);
    }

    // "each fourth good one .. in a row without those gives 1 back"
    private static void fourthGoodOneGivesOneBack() {
        for (int bad = 1; bad <= 3; bad++) {
            Run x = inStep().bad(bad).good(3);
            dueTrust("three good ones", x, 4 - bad);
            dueTrust("the fourth", x.good(1), 5 - bad);
            dueTrust("the fifth", x.good(1), 5 - bad);
        }
    }

    private static void eachFourthGivesOneBack() {
        Run x = inStep().bad(3);
        dueTrust("three bad ones", x, 1);
        for (int i = 1; i <= 20; i++) {
            dueTrust("good one " + i, x.good(1), Math.min(4, 1 + i / 4));
        }
    }

    // "(4 at most)"
    private static void trustIs4AtMost() {
        Run x = inStep();
        for (int i = 1; i <= 9; i++) {
            dueTrust("good one " + i + " with a trust of 4", x.good(1), 4);
        }
        dueTrust("a bad one: none was saved up", x.bad(), 3);
    }

    // "in a row without those"
    private static void rowEndsWithABadGroup() {
        for (int before = 0; before <= 3; before++) {
            Run x = inStep().bad(1).good(before).bad(1);
            dueTrust("a bad one behind " + before, x, 2);
            dueTrust("three good ones", x.good(3), 2);
            dueTrust("the fourth", x.good(1), 3);
        }
        Run full = inStep().good(3).bad(1);
        dueTrust("a bad one behind good ones", full, 3);
        dueTrust("three good ones", full.good(3), 3);
        dueTrust("the fourth", full.good(1), 4);
    }

    // "(not with a comma at an odd place)"
    private static void rowEndsWithACommaAtAnOddPlace() {
        Run x = inStep().bad(1).good(2).sign(188);
        dueTrust("a comma at an odd place", x, 2);
        dueTrust("three good ones", x.good(3), 2);
        dueTrust("the fourth", x.good(1), 3);
        Run fourth = inStep().good(1).bad(1).good(3).sign(188);
        dueTrust("a comma at an odd place as the fourth", fourth, 2);
        dueTrust("three good ones", fourth.good(3), 2);
        dueTrust("the fourth", fourth.good(1), 3);
    }

    private static void commaAtAnEvenPlaceIsInTheRow() {
        Run x = inStep().bad(1).good(3);
        dueTrust("three good ones", x, 3);
        dueTrust("a comma at an even place as the fourth", x.sign(188), 4);
        Run y = inStep().bad(2).idles(1).takeAll();
        dueTrust("two good ones, a comma at an even place first", y, 2);
        dueTrust("four of them", y.idles(1), 3);
    }

    private static void trustOf1MayBeGainedOrLost() {
        Run x = inStep().bad(3).good(4);
        dueTrust("the fourth good one", x, 2);
        dueTrust("a bad one", x.bad(), 1);
        dueTrust("three good ones", x.good(3), 1);
        dueTrust("a bad one as the fourth", x.bad(), 0);
    }

    private static void rowBeginsAnewWithANewStep() {
        Run x = inStep().bad(3).good(3).bad(1).takeAll();
        due("level() behind the last trust", x.level(), 0);
        x.sign(188).good(1).sign(188).good(1).sign(188).bad(1);
        dueTrust("a bad one in the new step", x, 3);
        dueTrust("three good ones", x.good(3), 3);
        dueTrust("the fourth", x.good(1), 4);
    }

    // "A group is GOOD when it is that of a symbol with the disparity at hand .. Either way the disparity goes on"
    private static void everyGroupInStep() {
        for (int group = 0; group < 1024; group++) {
            for (int lean = -1; lean <= 1; lean += 2) {
                everyGroupInStep(Integer.toBinaryString(1024 + group).substring(1), lean, true);
                everyGroupInStep(Integer.toBinaryString(1024 + group).substring(1), lean, false);
            }
        }
    }

    private static void everyGroupInStep(String group, int lean, boolean even) {
        Run x = inStep();
        if (lean > 0) {
            x.plain(32);
        }
        x.good((lean > 0) == even ? 1 : 0).takeAll();
        due("disparity(1) before " + group, x.disparity(1), lean);
        int what = new PlainModel().decode(Integer.parseInt(group, 2), lean);
        boolean comma = group.startsWith("0011111") || group.startsWith("1100000");
        x.bits(group).takeAll();
        String told = group + " with " + lean + (even ? " at an even place" : " at an odd place");
        due("symbol(0), " + told, x.symbol(0), what < 0 ? 512 : what);
        due("count(2), " + told, x.count(2), what < 0 ? 1 : 0);
        due("trust(), " + told, x.trust(), what < 0 || (comma && !even) ? 3 : 4);
        due("disparity(1) behind " + told, x.disparity(1), PlainModel.behindGroup(group, lean));
    }

    // "(the group that brings level 3 not counted)"
    private static void groupThatBringsLevel3IsNotReceived() {
        Run x = atLevel(3);
        due("count(7) behind the group that brings level 3", x.count(7), 0);
        due("symbol(0) behind it", x.symbol(0), -1);
        x.good(1).takeAll();
        due("count(7) behind the next", x.count(7), 1);
        due("symbol(0) behind the next", x.symbol(0), 74);
        due("symbol(1) behind the next", x.symbol(1), -1);
    }

    // "symbols are RECEIVED (before the trust is looked at)"
    private static void receivedBeforeTrustIsLookedAt() {
        Run bad = inStep().bad(3).takeAll();
        due("count(7) with a trust of 1", bad.count(7), 4);
        bad.bad().takeAll();
        due("level() behind the last trust", bad.level(), 0);
        due("count(7): the bad one was received", bad.count(7), 5);
        due("symbol(0): the bad one", bad.symbol(0), 512);
        Run odd = inStep().bad(3).takeAll();
        due("trust()", odd.trust(), 1);
        odd.sign(188).takeAll();
        due("level() behind a comma at an odd place", odd.level(), 0);
        due("count(7): the comma was received", odd.count(7), 5);
        due("symbol(0): the comma", odd.symbol(0), 256 + 188);
    }

    // "In step .. symbols are RECEIVED"
    private static void symbolsOutOfStepAreNotReceived() {
        for (int level = 1; level <= 2; level++) {
            Run x = atLevel(level).good(3).takeAll();
            due("count(7) at level " + level, x.count(7), 0);
            due("symbol(0) at level " + level, x.symbol(0), -1);
            due("count(1) at level " + level, x.count(1), 2 * level + 2);
        }
        Run x = new Run(CHECK).good(3).takeAll();
        due("count(7) while it searches", x.count(7), 0);
    }

    // symbol, "NONE: none such"
    private static void symbolOfNone() {
        Run x = new Run(CHECK);
        due("symbol(0) at first", x.symbol(0), -1);
        due("symbol(-1) at first", x.symbol(-1), -1);
        Run y = inStep().plain(0, 255).sign(252).bad().takeAll();
        int[] want = {512, 256 + 252, 255, 0, 80, -1};
        for (int k = 0; k < want.length; k++) {
            due("symbol(" + k + ")", y.symbol(k), want[k]);
        }
        due("symbol(-1)", y.symbol(-1), -1);
        due("symbol(99)", y.symbol(99), -1);
        due("symbol(MIN)", y.symbol(MIN), -1);
        due("symbol(MAX)", y.symbol(MAX), -1);
    }

    // "of the latest 100 alone"
    private static void symbolsOf100Alone() {
        int[] received = {99, 100, 101, 102, 199, 200, 201, 202};
        for (int n : received) {
            Run x = inStep();
            for (int i = 1; i < n; i++) {
                x.plain(i);
            }
            x.takeAll();
            due("count(7)", x.count(7), n);
            for (int k = 0; k <= 101; k++) {
                int nth = n - 1 - k;
                int want = k >= 100 || nth < 0 ? -1 : nth == 0 ? 80 : nth;
                due("symbol(" + k + ") of " + n, x.symbol(k), want);
            }
            due("symbol(-1) of " + n, x.symbol(-1), -1);
            due("symbol(200) of " + n, x.symbol(200), -1);
        }
    }

    private static void badGroupsAreAmongThe100() {
        Run x = inStep().good(2).bad().good(99).takeAll();
        due("symbol(99), the bad one", x.symbol(99), 512);
        due("symbol(98)", x.symbol(98), 74);
        x.good(1).takeAll();
        due("symbol(99), the one behind it", x.symbol(99), 74);
        due("symbol(100), the bad one", x.symbol(100), -1);
        due("count(7): bad ones too", x.count(7), 104);
    }

    private static void symbolsStayWhenItSearchesAgain() {
        Run x = inStep().plain(9).bad(4).takeAll();
        due("level()", x.level(), 0);
        due("symbol(4) while it searches", x.symbol(4), 9);
        due("symbol(5) while it searches", x.symbol(5), 80);
        due("symbol(6) while it searches", x.symbol(6), -1);
        x.idles(3).takeAll();
        due("level()", x.level(), 3);
        due("symbol(0) of the new step", x.symbol(0), 80);
        due("symbol(1) of the old one", x.symbol(1), 512);
        due("symbol(5) of the old one", x.symbol(5), 9);
        due("count(7) of both", x.count(7), 7);
    }

    // "1 groups taken (since the beginning, searching left out)"
    private static void groupsTakenAreCounted() {
        Run x = new Run(CHECK).good(4).bits("01").sign(188).takeAll();
        due("count(1): what was searched is left out", x.count(1), 1);
        x.good(1).takeAll();
        due("count(1): good ones", x.count(1), 2);
        x.bad().takeAll();
        due("count(1): bad ones too", x.count(1), 3);
        x.good(3).takeAll();
        due("count(1) while it searches again", x.count(1), 3);
        x.sign(188).takeAll();
        due("count(1): since the beginning", x.count(1), 4);
    }

    // "2 bad ones"
    private static void badOnesAreCounted() {
        Run x = new Run(CHECK).bits("0000000000 0000000000").takeAll();
        due("count(2) while it searches", x.count(2), 0);
        x.sign(188).takeAll();
        due("count(2) with a good first group", x.count(2), 0);
        x.bits("0000000000 0000000000").takeAll();
        due("count(2): the second is searched", x.count(2), 1);
        x.bits("0011111111").takeAll();
        due("count(2): a bad first group", x.count(2), 2);
        Run y = inStep().bad(5).takeAll();
        due("count(2) from step: the fifth is searched", y.count(2), 4);
    }

    // "3 how often it began to search again"
    private static void searchesAreCounted() {
        Run x = new Run(CHECK).bits("0011111111").takeAll();
        due("count(3) with a bad first group", x.count(3), 1);
        x.bits("0011111010 0000000000").takeAll();
        due("count(3) from level 1", x.count(3), 2);
        x.bits("0011111010 0101010101 1100000101 0000000000").takeAll();
        due("count(3) from level 2", x.count(3), 3);
        x.bits("0011111010 0101010101 1100000101 0101010101 0011111010").takeAll();
        due("level()", x.level(), 3);
        due("count(3) in step", x.count(3), 3);
        x.bad(3).takeAll();
        due("count(3) with a trust of 1", x.count(3), 3);
        x.bad().takeAll();
        due("count(3) from level 3", x.count(3), 4);
    }
}
