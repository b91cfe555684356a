import java.util.function.Consumer;

/**
 * Frames at the receiver, at the edges that the document names (promises 16 to 18 and 20): each
 * test is one of its sentences, looked at from both sides.
 */
public final class FrameEdgesTest {
    private static final int MIN = Integer.MIN_VALUE;
    private static final int MAX = Integer.MAX_VALUE;
    private static final int BEGIN = 251;
    private static final int CLOSE = 253;
    private static final int END = 247;
    private static final Check CHECK = new Check();

    public static void main(String[] args) {
        noFrameAtFirst();
        frameOfNoBytes();
        frameUnderWayIsNotKept();
        frameBeginsWithItsSignAlone();
        frameBeginsInStepAlone();
        openFrameEndsWhereOneBegins();
        bytes300AtMost();
        bytesBeyond300AreNotKept();
        bytesBeyond300BreakItWhateverEndsIt();
        signThatClosesIsNoEnd();
        endBehindTheCloseAlone();
        endWithoutACloseIsAnotherSign();
        byteBehindTheClose();
        signBehindTheClose();
        beginningBehindTheClose();
        secondCloseBehindTheClose();
        badGroupBehindTheClose();
        brokenFrameStaysBroken();
        badGroupBreaksItAndDoesNotEndIt();
        anyOtherSignEndsIt();
        searchingAgainEndsAnOpenFrame();
        searchingAgainWithoutAFrame();
        searchingAgainBehindAClose();
        commaAtAnOddPlaceEndsItOnce();
        frameDoesNotGoOnBehindASearch();
        frameOutlivesTrustThatIsLeft();
        kept40();
        keptAcrossManyMore();
        longFramesKeepTheirBytes();
        lengthOfNone();
        wholeOfNone();
        atOfNone();
        atOfTheFirstAndTheLast();
        countsOfFrames();
        CHECK.end();
    }

    private static void due(String what, long got, long want) {
        CHECK.due(what, got, want);
    }

    private static void due(String what, boolean got, boolean want) {
        CHECK.due(what, got, want);
    }

    private static Run inStep() {
        return Run.inStep(CHECK);
    }

    /** What has been sent is taken; the newest of so many frames that have ended is such. */
    private static void dueNewest(String what, Run x, int ended, int length, boolean whole) {
        x.takeAll();
        due(what + ": count(5)", x.count(5), ended);
        due(what + ": length", x.length(ended - 1), length);
        due(what + ": whole", x.whole(ended - 1), whole);
    }

    private static void dueEnded(String what, Run x, int ended) {
        x.takeAll();
        due(what + ": count(5)", x.count(5), ended);
        due(what + ": count(4)", x.count(4), ended);
    }

    private static void noFrameAtFirst() {
        Run x = inStep();
        due("length(0) in step", x.length(0), -1);
        due("whole(0) in step", x.whole(0), false);
        due("at(0, 0) in step", x.at(0, 0), -1);
        dueEnded("in step", x, 0);
    }

    private static void frameOfNoBytes() {
        Run x = inStep();
        due("frame()", x.frame(), 4);
        dueNewest("no bytes", x, 1, 0, true);
        due("at(0, 0) of no bytes", x.at(0, 0), -1);
        x.feeds(1, 200).frame();
        dueNewest("one byte", x, 2, 1, true);
        due("at(1, 0) of one byte", x.at(1, 0), 200);
        due("at(1, 1) of one byte", x.at(1, 1), -1);
    }

    private static void frameUnderWayIsNotKept() {
        Run x = inStep().sign(BEGIN);
        dueEnded("begun", x, 0);
        dueEnded("with a byte", x.plain(5), 0);
        due("length(0) under way", x.length(0), -1);
        due("at(0, 0) under way", x.at(0, 0), -1);
        dueEnded("closed", x.sign(CLOSE), 0);
        due("length(0) closed", x.length(0), -1);
        dueNewest("ended", x.sign(END), 1, 1, true);
    }

    // "A frame BEGINS with the sign 251": the byte 251 is none
    private static void frameBeginsWithItsSignAlone() {
        Run x = inStep().plain(BEGIN, 1).sign(CLOSE, END);
        dueEnded("begun by the byte 251", x, 0);
        dueEnded("bytes and ends without a beginning", x.plain(2).sign(END, CLOSE, END), 0);
        dueNewest("begun by the sign", x.sign(BEGIN).plain(BEGIN, CLOSE, END).sign(CLOSE, END), 1, 3, true);
        due("at(0, 0), the byte 251", x.at(0, 0), BEGIN);
        due("at(0, 1), the byte 253", x.at(0, 1), CLOSE);
        due("at(0, 2), the byte 247", x.at(0, 2), END);
    }

    // "In step .. symbols are RECEIVED"
    private static void frameBeginsInStepAlone() {
        Run searching = new Run(CHECK).sign(BEGIN).plain(1).sign(CLOSE, END);
        dueEnded("while it searches", searching, 0);
        Run early = new Run(CHECK).sign(188).good(1).sign(188).sign(BEGIN).plain(1).sign(CLOSE, END);
        dueEnded("at level 2", early, 0);
        due("level()", early.level(), 2);
        Run late = new Run(CHECK).sign(188).good(1).sign(188).sign(BEGIN).sign(188).plain(1).sign(CLOSE, END);
        dueEnded("begun just before level 3", late, 0);
        due("level()", late.level(), 3);
        Run first = new Run(CHECK).sign(188).good(1).sign(188).good(1).sign(188).sign(BEGIN).sign(CLOSE, END);
        dueNewest("begun with the first group behind level 3", first, 1, 0, true);
    }

    // "(one that is open ends, as broken)"
    private static void openFrameEndsWhereOneBegins() {
        Run x = inStep().sign(BEGIN, BEGIN);
        dueNewest("begun twice", x, 1, 0, false);
        dueNewest("begun a third time behind two bytes", x.plain(1, 2).sign(BEGIN), 2, 2, false);
        dueNewest("the third", x.plain(3).sign(CLOSE, END), 3, 1, true);
        due("at(1, 1)", x.at(1, 1), 2);
        due("at(2, 0)", x.at(2, 0), 3);
        due("count(6)", x.count(6), 1);
    }

    private static Run withFrameOf(int bytes) {
        Run x = inStep().feeds(bytes, 0);
        due("frame() of " + bytes, x.frame() >= bytes + 3, true);
        return x;
    }

    // "bytes come to it, 300 at most (more of them break it)"
    private static void bytes300AtMost() {
        dueNewest("299 bytes", withFrameOf(299), 1, 299, true);
        dueNewest("300 bytes", withFrameOf(300), 1, 300, true);
        dueNewest("301 bytes", withFrameOf(301), 1, 300, false);
        dueNewest("302 bytes", withFrameOf(302), 1, 300, false);
        dueNewest("400 bytes", withFrameOf(400), 1, 300, false);
    }

    private static void bytesBeyond300AreNotKept() {
        int[] sizes = {300, 301, 302, 400};
        for (int bytes : sizes) {
            Run x = withFrameOf(bytes).takeAll();
            int[] places = {0, 1, 3, 4, 250, 251, 298, 299};
            for (int i : places) {
                due("at(0, " + i + ") of " + bytes, x.at(0, i), i % 251);
            }
            due("at(0, 300) of " + bytes, x.at(0, 300), -1);
            due("at(0, 301) of " + bytes, x.at(0, 301), -1);
            x.frame();
            dueNewest("one behind it", x, 2, 0, true);
            due("length(0) of " + bytes, x.length(0), 300);
        }
    }

    private static void bytesBeyond300BreakItWhateverEndsIt() {
        Run x = inStep().sign(BEGIN);
        for (int i = 0; i < 300; i++) {
            x.plain(i % 256);
        }
        dueEnded("300 bytes", x, 0);
        dueEnded("one more", x.plain(1), 0);
        dueEnded("one more again", x.plain(2), 0);
        dueEnded("the close", x.sign(CLOSE), 0);
        dueNewest("the end", x.sign(END), 1, 300, false);
        due("count(6)", x.count(6), 0);
        dueNewest("the next is none the worse", x.sign(BEGIN).plain(1).sign(CLOSE, END), 2, 1, true);
    }

    // "the sign 253 closes it: if the next symbol received is the sign 247, it ends then: WHOLE"
    private static void signThatClosesIsNoEnd() {
        Run x = inStep().sign(BEGIN).plain(1).sign(CLOSE);
        dueEnded("closed", x, 0);
        x.sign(END);
        due("take(9)", x.take(9), 9);
        due("count(5) with nine bits of the end", x.count(5), 0);
        due("take(1)", x.take(1), 1);
        due("count(5) with ten", x.count(5), 1);
        due("count(6) with ten", x.count(6), 1);
        due("whole(0)", x.whole(0), true);
    }

    private static void endBehindTheCloseAlone() {
        Run x = inStep().sign(BEGIN, CLOSE, END, END);
        dueNewest("with the end once more", x, 1, 0, true);
        dueEnded("with it a third time", x.sign(END), 1);
        dueEnded("with a close and an end", x.sign(CLOSE, END), 1);
    }

    private static void endWithoutACloseIsAnotherSign() {
        Run x = inStep().sign(BEGIN).plain(1).sign(END);
        dueNewest("247 without 253", x, 1, 1, false);
        dueEnded("253 and 247 behind it", x.sign(CLOSE, END), 1);
    }

    // "if that is another one, or bad, it ends then as broken (and that one is looked at as ever)"
    private static void byteBehindTheClose() {
        int[] bytes = {0, 255, END, CLOSE, BEGIN};
        for (int b : bytes) {
            Run x = inStep().sign(BEGIN).plain(1).sign(CLOSE).plain(b);
            dueNewest("the byte " + b + " behind the close", x, 1, 1, false);
            dueEnded("247 behind it", x.sign(END), 1);
            dueEnded("253 and 247 behind it", x.sign(CLOSE, END), 1);
        }
    }

    private static void signBehindTheClose() {
        int[] signs = {28, 60, 92, 124, 156, 188, 220, 252, 254};
        for (int v : signs) {
            Run x = inStep().sign(BEGIN, CLOSE, v);
            dueNewest("the sign " + v + " behind the close", x, 1, 0, false);
            dueEnded("247 behind it", x.sign(END), 1);
        }
    }

    private static void beginningBehindTheClose() {
        Run x = inStep().sign(BEGIN).plain(1).sign(CLOSE, BEGIN);
        dueNewest("251 behind the close", x, 1, 1, false);
        dueNewest("the one that it begins", x.plain(2, 3).sign(CLOSE, END), 2, 2, true);
        due("length(0)", x.length(0), 1);
        due("whole(0)", x.whole(0), false);
        due("at(0, 0)", x.at(0, 0), 1);
        due("at(1, 0)", x.at(1, 0), 2);
        due("count(6)", x.count(6), 1);
    }

    private static void secondCloseBehindTheClose() {
        Run x = inStep().sign(BEGIN, CLOSE, CLOSE);
        dueNewest("253 behind the close", x, 1, 0, false);
        dueEnded("247 behind it", x.sign(END), 1);
    }

    private static void badGroupBehindTheClose() {
        Run x = inStep().sign(BEGIN).plain(1).sign(CLOSE).bad();
        dueNewest("a bad group behind the close", x, 1, 1, false);
        dueEnded("247 behind it", x.sign(END), 1);
    }

    // "WHOLE, if it is not broken"
    private static void brokenFrameStaysBroken() {
        Run x = inStep().sign(BEGIN).bad().sign(CLOSE);
        dueEnded("a broken one that is closed", x, 0);
        dueNewest("and ends", x.sign(END), 1, 0, false);
        due("count(6)", x.count(6), 0);
        dueNewest("the next is none the worse", x.sign(BEGIN, CLOSE, END), 2, 0, true);
        due("count(6)", x.count(6), 1);
    }

    // "a bad group breaks it"
    private static void badGroupBreaksItAndDoesNotEndIt() {
        Run x = inStep().sign(BEGIN).plain(1).bad();
        dueEnded("a bad group", x, 0);
        dueEnded("bytes behind it", x.plain(2, 3), 0);
        dueNewest("the end", x.sign(CLOSE, END), 1, 3, false);
        due("at(0, 0)", x.at(0, 0), 1);
        due("at(0, 1)", x.at(0, 1), 2);
        due("at(0, 2)", x.at(0, 2), 3);
        Run before = inStep().bad().sign(BEGIN).plain(1).sign(CLOSE, END).bad();
        dueNewest("bad groups before and behind it", before, 1, 1, true);
    }

    // "any other sign ends it as broken"
    private static void anyOtherSignEndsIt() {
        int[] signs = {28, 60, 92, 124, 156, 188, 220, 252, 254, END};
        for (int v : signs) {
            Run x = inStep().sign(BEGIN).plain(1).sign(v);
            dueNewest("the sign " + v, x, 1, 1, false);
            dueEnded("a close and an end behind it", x.plain(2).sign(CLOSE, END), 1);
            due("length(0) behind them", x.length(0), 1);
            due("count(6)", x.count(6), 0);
        }
        Run idle = inStep().sign(BEGIN).plain(1).idles(1);
        dueNewest("idle inside", idle, 1, 1, false);
    }

    // "When it searches again, a frame that is open ends as broken"
    private static void searchingAgainEndsAnOpenFrame() {
        Run x = inStep().sign(BEGIN).plain(7, 8).bad(3);
        dueEnded("with a trust of 1", x, 0);
        due("trust()", x.trust(), 1);
        dueNewest("with none", x.bad(), 1, 2, false);
        due("level()", x.level(), 0);
        due("at(0, 1)", x.at(0, 1), 8);
        due("count(6)", x.count(6), 0);
    }

    private static void searchingAgainWithoutAFrame() {
        Run x = inStep().bad(4);
        dueEnded("no frame", x, 0);
        due("level()", x.level(), 0);
        Run ended = inStep().sign(BEGIN, CLOSE, END).bad(4);
        dueNewest("one that has ended before", ended, 1, 0, true);
        due("level()", ended.level(), 0);
        Run early = new Run(CHECK).sign(188).bad();
        dueEnded("from level 1", early, 0);
    }

    // a closed one ends with the symbol that takes the last trust, not once more with the search
    private static void searchingAgainBehindAClose() {
        Run bad = inStep().bad(3).sign(BEGIN).plain(1).sign(CLOSE).takeAll();
        due("trust()", bad.trust(), 1);
        dueNewest("a bad group behind the close", bad.bad(), 1, 1, false);
        due("level()", bad.level(), 0);
        Run odd = inStep().bad(2).good(1).bad(1).sign(BEGIN, CLOSE).plain(1).sign(BEGIN, CLOSE).takeAll();
        due("trust()", odd.trust(), 2);
        dueNewest("a comma at an odd place behind the close", odd.sign(188), 2, 0, false);
        due("trust()", odd.trust(), 1);
        due("level()", odd.level(), 3);
        Run last = inStep().bad(3).sign(BEGIN, CLOSE).sign(188).takeAll();
        due("level() behind a comma at an odd place behind the close", last.level(), 0);
        dueNewest("it ends once", last, 1, 0, false);
    }

    // the comma's sign has ended the frame before it searches again
    private static void commaAtAnOddPlaceEndsItOnce() {
        Run x = inStep().bad(3).sign(BEGIN).plain(1).sign(188).takeAll();
        due("level()", x.level(), 0);
        dueNewest("a comma at an odd place with a trust of 1", x, 1, 1, false);
        Run y = inStep().sign(BEGIN).sign(188).takeAll();
        due("trust()", y.trust(), 3);
        dueNewest("a comma at an odd place with a trust of 4", y, 1, 0, false);
    }

    private static void frameDoesNotGoOnBehindASearch() {
        Run x = inStep().sign(BEGIN).plain(1).bad(4).idles(3).plain(2).sign(CLOSE, END);
        dueNewest("behind a search", x, 1, 1, false);
        due("level()", x.level(), 3);
        dueNewest("the next", x.sign(BEGIN).plain(3).sign(CLOSE, END), 2, 1, true);
        due("at(0, 0)", x.at(0, 0), 1);
        due("at(1, 0)", x.at(1, 0), 3);
    }

    private static void frameOutlivesTrustThatIsLeft() {
        Run x = inStep().sign(BEGIN).plain(1).bad(3).plain(2).sign(CLOSE);
        dueEnded("with a trust of 1", x, 0);
        dueNewest("and an end", x.sign(END), 1, 2, false);
        due("level()", x.level(), 3);
        due("trust()", x.trust(), 1);
    }

    /** So many frames, the n-th of (n modulo 3) bytes that tell n; each fifth is broken. */
    private static void sendFrames(Run x, int many) {
        for (int n = 0; n < many; n++) {
            x.sign(BEGIN);
            for (int i = 0; i < n % 3; i++) {
                x.plain(n + i);
            }
            if (n % 5 == 4) {
                x.sign(254);
            } else {
                x.sign(CLOSE, END);
            }
        }
    }

    private static void dueKept(int ended, Run x) {
        int kept = Math.min(40, ended);
        due("count(4) of " + ended, x.count(4), kept);
        due("count(5) of " + ended, x.count(5), ended);
        due("count(6) of " + ended, x.count(6), ended - ended / 5);
        due("length(-1) of " + ended, x.length(-1), -1);
        due("length(" + kept + ") of " + ended, x.length(kept), -1);
        due("whole(" + kept + ") of " + ended, x.whole(kept), false);
        due("at(" + kept + ", 0) of " + ended, x.at(kept, 0), -1);
        for (int k = 0; k < kept; k++) {
            int n = ended - kept + k;
            due("length(" + k + ") of " + ended, x.length(k), n % 3);
            due("whole(" + k + ") of " + ended, x.whole(k), n % 5 != 4);
            due("at(" + k + ", 0) of " + ended, x.at(k, 0), n % 3 > 0 ? n : -1);
            due("at(" + k + ", 1) of " + ended, x.at(k, 1), n % 3 > 1 ? n + 1 : -1);
        }
    }

    // "40 ended frames are kept: of more the oldest goes"
    private static void kept40() {
        for (int ended = 38; ended <= 44; ended++) {
            Run x = inStep();
            sendFrames(x, ended);
            dueKept(ended, x.takeAll());
        }
        Run x = inStep();
        sendFrames(x, 40);
        x.sign(BEGIN).plain(99).sign(CLOSE).takeAll();
        dueKept(40, x);
        x.sign(END).takeAll();
        due("length(39) of the 41st", x.length(39), 1);
        due("at(39, 0) of the 41st", x.at(39, 0), 99);
        due("at(0, 0): the oldest is the second", x.at(0, 0), 1);
    }

    private static void keptAcrossManyMore() {
        int[] more = {79, 80, 81, 82, 83};
        for (int ended : more) {
            Run x = inStep();
            sendFrames(x, ended);
            dueKept(ended, x.takeAll());
        }
        askedInParts(123);
        askedInParts(124);
    }

    /** Many empty frames in few calls, so that there are calls left for the questions. */
    private static void askedInParts(int ended) {
        Consumer<Run> made = x -> {
            x.idles(3).emptyFrames(ended - 3).feeds(2, 7);
            x.frame();
            x.emptyFrames(1).feeds(1, 9);
            x.frame();
            x.takeAll();
        };
        Run x = new Run(CHECK);
        made.accept(x);
        due("count(4)", x.count(4), 40);
        due("count(5)", x.count(5), ended);
        due("count(6)", x.count(6), ended);
        for (int k = 0; k < 40; k++) {
            due("length(" + k + ") of " + ended, x.length(k), k == 37 ? 2 : k == 39 ? 1 : 0);
            due("whole(" + k + ") of " + ended, x.whole(k), true);
        }
        due("at(37, 0)", x.at(37, 0), 7);
        due("at(37, 1)", x.at(37, 1), 8);
        due("at(37, 2)", x.at(37, 2), -1);
        due("at(39, 0)", x.at(39, 0), 9);
        due("length(40)", x.length(40), -1);
    }

    // a long frame's bytes stay, whatever frames come behind it, until it is the oldest of 41
    private static void longFramesKeepTheirBytes() {
        Run x = inStep().feeds(300, 0);
        x.frame();
        x.feeds(20, 100).frame();
        x.emptyFrames(38).takeAll();
        for (int i = 0; i < 300; i += 13) {
            due("at(0, " + i + ") of the oldest of 40", x.at(0, i), i % 251);
        }
        due("at(0, 299)", x.at(0, 299), 299 % 251);
        due("at(0, 300)", x.at(0, 300), -1);
        x.emptyFrames(1).takeAll();
        due("length(0): it is gone", x.length(0), 20);
        due("at(0, 0): it is gone", x.at(0, 0), 100);
        x.feeds(2, 100).frame();
        x.takeAll();
        due("length(39) where a long one was", x.length(39), 2);
        due("at(39, 1)", x.at(39, 1), 101);
        due("at(39, 2): nothing of the long one", x.at(39, 2), -1);
    }

    /** Two frames: 5, 6 and none. */
    private static Run withTwoFrames() {
        Run x = inStep().sign(BEGIN).plain(5, 6).sign(CLOSE, END, BEGIN, CLOSE, END).takeAll();
        due("count(4)", x.count(4), 2);
        return x;
    }

    // length, "NONE: none such"
    private static void lengthOfNone() {
        Run x = withTwoFrames();
        due("length(-1)", x.length(-1), -1);
        due("length(0)", x.length(0), 2);
        due("length(1)", x.length(1), 0);
        due("length(2)", x.length(2), -1);
        due("length(40)", x.length(40), -1);
        due("length(MIN)", x.length(MIN), -1);
        due("length(MAX)", x.length(MAX), -1);
    }

    // whole: no frame is not whole
    private static void wholeOfNone() {
        Run x = withTwoFrames().sign(BEGIN, 254).takeAll();
        due("whole(-1)", x.whole(-1), false);
        due("whole(0)", x.whole(0), true);
        due("whole(1)", x.whole(1), true);
        due("whole(2), a broken one", x.whole(2), false);
        due("whole(3)", x.whole(3), false);
        due("whole(41)", x.whole(41), false);
        due("whole(MIN)", x.whole(MIN), false);
        due("whole(MAX)", x.whole(MAX), false);
    }

    // at, "NONE: none such"
    private static void atOfNone() {
        Run x = withTwoFrames();
        due("at(0, -1)", x.at(0, -1), -1);
        due("at(0, 2)", x.at(0, 2), -1);
        due("at(0, MIN)", x.at(0, MIN), -1);
        due("at(0, MAX)", x.at(0, MAX), -1);
        due("at(1, 0) of no bytes", x.at(1, 0), -1);
        due("at(1, -1) of no bytes", x.at(1, -1), -1);
        due("at(2, 0)", x.at(2, 0), -1);
        due("at(-1, 0)", x.at(-1, 0), -1);
        due("at(-1, -1)", x.at(-1, -1), -1);
        due("at(MIN, 0)", x.at(MIN, 0), -1);
        due("at(MAX, 0)", x.at(MAX, 0), -1);
        due("at(MAX, MAX)", x.at(MAX, MAX), -1);
        due("at(MIN, MIN)", x.at(MIN, MIN), -1);
    }

    private static void atOfTheFirstAndTheLast() {
        Run x = withTwoFrames();
        due("at(0, 0)", x.at(0, 0), 5);
        due("at(0, 1)", x.at(0, 1), 6);
        Run all = inStep().sign(BEGIN);
        for (int b = 0; b < 256; b++) {
            all.plain(b);
        }
        all.sign(CLOSE, END).takeAll();
        for (int b = 0; b < 200; b++) {
            int i = b < 100 ? b : b + 56;
            due("at(0, " + i + ") of all bytes", all.at(0, i), i);
        }
        due("at(0, 256) of all bytes", all.at(0, 256), -1);
    }

    // "4 frames that are kept, 5 frames ended, 6 whole ones of these"
    private static void countsOfFrames() {
        Run x = inStep();
        int[] none = {4, 5, 6};
        for (int what : none) {
            due("count(" + what + ") of none", x.count(what), 0);
        }
        x.sign(BEGIN, CLOSE, END).takeAll();
        for (int what : none) {
            due("count(" + what + ") of a whole one", x.count(what), 1);
        }
        x.sign(BEGIN, 254).takeAll();
        due("count(4) with a broken one", x.count(4), 2);
        due("count(5) with a broken one", x.count(5), 2);
        due("count(6) with a broken one", x.count(6), 1);
        x.sign(BEGIN).takeAll();
        due("count(5) with one under way", x.count(5), 2);
        Run gone = inStep().sign(BEGIN, CLOSE, END);
        for (int n = 0; n < 40; n++) {
            gone.sign(BEGIN, 254);
        }
        gone.takeAll();
        due("count(4) behind a whole one that is gone", gone.count(4), 40);
        due("count(5) behind it", gone.count(5), 41);
        due("count(6): whole ones of those that ended", gone.count(6), 1);
    }
}
