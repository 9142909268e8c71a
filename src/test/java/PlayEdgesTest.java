/** The edges that the document names for what a play tells, a sentence each: promises 11 to 15. */
public final class PlayEdgesTest {
    private static final int MIN = Integer.MIN_VALUE;
    private static final int MAX = Integer.MAX_VALUE;
    private static final int[] NO_WAYS = {-1, 4, 5, MIN, MAX};

    public static void main(String[] args) {
        playOfNoWay();
        refusedPlayLeavesTheLatest();
        playAgain();
        releasesFromFewToMost();
        nothingWasPlayed();
        playedSinceTheLatest();
        whatTellsNothingNew();
        toldNever();
        toldOfNone();
        releaseOfNone();
        hotOnesHoldNone();
        hasFromNoneToSixty();
        hasOfNone();
        waits();
        neverOutOfThoseBorn();
        mostBornAndNotMerged();
        sumOfNone();
        Due.finish();
    }

    private static BranchPlay withWay(String text) {
        BranchPlay x = new BranchPlay();
        Due.way(x, 0, text);
        Due.due("fault(0) of <" + text + ">", x.fault(0), 0);
        return x;
    }

    /** Three changes, one of them a fix, and ways that are not alike. */
    private static BranchPlay some() {
        BranchPlay x = new BranchPlay();
        x.change(0, 1, 1, 5);
        x.change(0, 2, 2, -1);
        x.change(30, 3, 3, -1);
        x.fix(1, 0);
        Due.way(x, 1, "every 30;");
        Due.way(x, 2, "every 40; hot 1;");
        Due.way(x, 3, "every 50;");
        return x;
    }

    /** "RANGE": ways 0 .. 3 are played, no other. */
    private static void playOfNoWay() {
        BranchPlay x = some();
        int[] many = {19, 13, 10, 7};
        for (int w = 0; w < 4; w++) {
            Due.due("play(" + w + ")", x.play(w), many[w]);
            Due.due("count(2) behind play(" + w + ")", x.count(2), w);
        }
        for (int w : NO_WAYS) {
            Due.due("play(" + w + ")", x.play(w), -2);
        }
    }

    /** "RANGE": the latest play() is the one that was. */
    private static void refusedPlayLeavesTheLatest() {
        for (int w : NO_WAYS) {
            BranchPlay x = some();
            String ahead = Seen.of(x);
            Due.due("play(" + w + ") ahead of any", x.play(w), -2);
            Seen.same("play(" + w + ") ahead of any", ahead, x);
            x.play(2);
            ahead = Seen.of(x);
            Due.due("play(" + w + ")", x.play(w), -2);
            Seen.same("play(" + w + ")", ahead, x);
        }
    }

    /** "the latest play()": nothing of an earlier one is in it. */
    private static void playAgain() {
        BranchPlay x = some();
        for (int first = 0; first < 4; first++) {
            for (int second = 0; second < 4; second++) {
                BranchPlay y = some();
                y.play(second);
                x.play(first);
                x.play(second);
                Seen.same("play(" + first + ") ahead of play(" + second + ")", Seen.of(y), x);
            }
        }
        // At the end of the first a fix waits yet, and with queue 1 more wait at once than else.
        for (int second = 0; second < 4; second++) {
            BranchPlay y = unfinished();
            y.play(second);
            BranchPlay z = unfinished();
            z.play(1);
            Due.due("a fix that is merged at the last tick: told(2, 1)", z.told(2, 1), 399);
            Due.due("a fix that was ready, too: told(3, 0)", z.told(3, 0), 398);
            Due.due("a fix that was ready, too: told(3, 1)", z.told(3, 1), -1);
            Due.due("the most that wait: sum(7)", z.sum(7), 3);
            z.play(second);
            Seen.same("an unfinished play ahead of play(" + second + ")", Seen.of(y), z);
            Due.due("the most that wait then: sum(7)", z.sum(7), second == 1 ? 3 : 2);
        }
    }

    /** With way 1 both breaks are met at 398, and of both fixes only one is merged at 399. */
    private static BranchPlay unfinished() {
        BranchPlay x = new BranchPlay();
        x.change(250, 1, 1, 98);
        x.change(250, 2, 1, 98);
        x.change(0, 4, 1, -1);
        x.change(0, 8, 1, -1);
        x.fix(2, 0);
        x.fix(3, 1);
        for (int c = 0; c < 4; c++) {
            x.change(10 + c / 2, 16 << c, 1, -1);
        }
        Due.way(x, 1, "every 100; test 0; queue 1;");
        return x;
    }

    /** "how many RELEASES there are (HOT ones too)": three at least, 199 and 59 hot ones at most. */
    private static void releasesFromFewToMost() {
        Due.due("play(0), the fewest", withWay("every 100;").play(0), 3);
        BranchPlay x = withWay("every 2; ahead 1; test 3; hot 2; rework 0; pick none;");
        x.change(0, 1, 1, 1);
        for (int c = 1; c < 60; c++) {
            x.change(0, 1, 1, 1);
            x.fix(c, c - 1);
        }
        // Each is met the tick behind its being out, and its fix is out hot three ticks later.
        Due.due("play(0), the most", x.play(0), 258);
        Due.due("release(257, 0)", x.release(257, 0), 398);
        Due.due("release(258, 0)", x.release(258, 0), -9);
        Due.due("has(257)", x.has(257), (1L << 60) - 1);
        Due.due("has(258)", x.has(258), -9);
        int hot = 0;
        for (int i = 0; i < 258; i++) {
            hot += x.release(i, 1);
        }
        Due.due("how many are hot", hot, 59);
        for (int c = 0; c < 60; c++) {
            Due.due("told(" + c + ", 2)", x.told(c, 2), 4 + 4 * c);
            Due.due("told(" + c + ", 3)", x.told(c, 3), 5 + 4 * c);
        }
    }

    private static void unseen(BranchPlay x, String when) {
        for (int i = -1; i < 4; i++) {
            for (int what = -1; what < 9; what++) {
                Due.due("told(" + i + ", " + what + ") " + when, x.told(i, what), -9);
                Due.due("release(" + i + ", " + what + ") " + when, x.release(i, what), -9);
                Due.due("sum(" + what + ") " + when, x.sum(what), -9);
            }
            Due.due("has(" + i + ") " + when, x.has(i), -9);
        }
        Due.due("count(2) " + when, x.count(2), -1);
    }

    /** "or nothing was played", ever. */
    private static void nothingWasPlayed() {
        unseen(new BranchPlay(), "of a new object");
        BranchPlay x = some();
        unseen(x, "ahead of any play()");
        // Ways that are held against one another are no play().
        x.parts(0, 1);
        x.costs(2);
        x.best(3, 0, 10, 39);
        unseen(x, "behind parts(), costs() and best()");
    }

    /** "since the latest CHANGE, hang(), fix() or way()". */
    private static void playedSinceTheLatest() {
        BranchPlay first = new BranchPlay();
        first.play(3);
        Due.due("the first CHANGE", first.change(0, 1, 1, -1), 0);
        unseen(first, "behind the first CHANGE");
        for (int call = 0; call < 6; call++) {
            BranchPlay x = new BranchPlay();
            x.change(0, 1, 1, 5);
            x.change(0, 2, 2, -1);
            x.play(2);
            Due.due("count(2) behind play(2)", x.count(2), 2);
            switch (call) {
                case 0: x.change(0, 1, 1, -1); break;
                case 1: x.hang(1, 0); break;
                case 2: x.fix(1, 0); break;
                case 3: x.way(2); break;
                // Another way than that which was played; and one that is told as it was.
                case 4: x.way(3); break;
                default: Due.way(x, 0, "every 20;"); break;
            }
            unseen(x, "behind call " + call);
            Due.due("play(1)", x.play(1), 19);
            Due.due("count(2) behind play(1)", x.count(2), 1);
            Due.due("told(0, 0) behind play(1)", x.told(0, 0), 0);
        }
    }

    /** Calls that tell no change and no way: refused ones, and those that only ask. */
    private static void whatTellsNothingNew() {
        BranchPlay x = some();
        x.hang(2, 0);
        x.play(1);
        String ahead = Seen.of(x);
        x.change(400, 1, 1, -1);
        x.hang(2, 2);
        x.hang(2, 0);
        x.fix(1, 0);
        x.way(4);
        x.prices(1001, 0, 0, 0);
        x.play(4);
        x.parts(0, 3);
        x.parts(0, 4);
        x.costs(3);
        x.costs(4);
        x.best(0, 0, 5, 34);
        x.best(0, 6, 5, 5);
        x.end(-1);
        x.feed(0, 0, 0, 0, 0);
        x.end(0);
        Seen.same("what tells nothing new", ahead, x);
    }

    /** "when it was born (NONE: never), 1: merged, 2: OUT first, 3: MET (each NONE: never)". */
    private static void toldNever() {
        BranchPlay x = withWay("every 100; test 0;");
        x.change(399, 1, 1, 1);
        x.change(0, 2, 1, 1);
        x.change(0, 4, 1, -1);
        x.change(350, 8, 1, 1);
        x.fix(1, 0);
        x.hang(2, 1);
        x.play(0);
        int[][] due = {
            {399, -1, -1, -1, 0, 0, 0}, {-1, -1, -1, -1, 0, 0, 0},
            {0, -1, -1, -1, 0, 0, 0}, {350, 351, -1, -1, 0, 0, 0}};
        for (int c = 0; c < due.length; c++) {
            for (int what = 0; what < 7; what++) {
                Due.due("never: told(" + c + ", " + what + ")", x.told(c, what), due[c][what]);
            }
        }
    }

    /** told(): "-9 when there is none such". */
    private static void toldOfNone() {
        BranchPlay x = some();
        x.play(0);
        for (int wild : new int[] {-1, 3, 59, 60, 64, MIN, MAX}) {
            for (int what = 0; what < 7; what++) {
                Due.due("told(" + wild + ", " + what + ")", x.told(wild, what), -9);
            }
        }
        for (int c = 0; c < 3; c++) {
            for (int wild : new int[] {-1, 7, 8, MIN, MAX}) {
                Due.due("told(" + c + ", " + wild + ")", x.told(c, wild), -9);
            }
            Due.due("told(" + c + ", 0) is there", x.told(c, 0) >= 0 ? 1 : 0, 1);
            Due.due("told(" + c + ", 6) is there", x.told(c, 6) >= 0 ? 1 : 0, 1);
        }
        BranchPlay none = new BranchPlay();
        none.play(0);
        Due.due("told(0, 0) of no changes", none.told(0, 0), -9);
    }

    /** release(): "-9 likewise." */
    private static void releaseOfNone() {
        BranchPlay x = some();
        for (int w = 0; w < 4; w++) {
            int many = x.play(w);
            for (int what = 0; what < 4; what++) {
                Due.due("release(0, " + what + ") is there", x.release(0, what) >= 0 ? 1 : 0, 1);
                Due.due("release(last, " + what + ") is there", x.release(many - 1, what) >= 0 ? 1 : 0, 1);
                for (int wild : new int[] {-1, many, many + 1, 258, 259, 260, MIN, MAX}) {
                    Due.due("release(" + wild + ", " + what + ")", x.release(wild, what), -9);
                }
            }
            for (int wild : new int[] {-1, 4, 5, MIN, MAX}) {
                Due.due("release(0, " + wild + ")", x.release(0, wild), -9);
                Due.due("release(last, " + wild + ")", x.release(many - 1, wild), -9);
            }
        }
    }

    /** "how many were HELD (0 of HOT ones)", "1 if it is HOT, else 0". */
    private static void hotOnesHoldNone() {
        // The fix hangs on 1, which is too young: held by the release at 100, by no hot one.
        BranchPlay x = withWay("every 50; ahead 1; hot 1; test 40; rework 0;");
        x.change(0, 1, 1, 5);
        x.change(60, 1, 20, -1);
        x.change(0, 1, 1, -1);
        x.fix(2, 0);
        x.hang(2, 1);
        Due.due("play(0)", x.play(0), 8);
        int[] held = {0, 0, 2, 0};
        for (int i = 0; i < held.length; i++) {
            Due.due("release(" + i + ", 1)", x.release(i, 1), i == 1 ? 1 : 0);
            Due.due("release(" + i + ", 3)", x.release(i, 3), held[i]);
        }
        Due.due("sum(6)", x.sum(6), 2);
        Due.due("told(2, 6)", x.told(2, 6), 1);
    }

    /** "as bits (bit c: CHANGE c)": none, each alone, all sixty. */
    private static void hasFromNoneToSixty() {
        for (int only = 0; only < 60; only++) {
            BranchPlay x = withWay("every 100; test 0;");
            for (int c = 0; c < 60; c++) {
                x.change(c == only ? 0 : 399, 1, 1, -1);
            }
            x.play(0);
            Due.due("has(0) of " + only + " alone", x.has(0), 1L << only);
            Due.due("release(0, 2) of " + only + " alone", x.release(0, 2), 1);
        }
        BranchPlay x = withWay("every 100; test 0; rework 0;");
        for (int c = 0; c < 60; c++) {
            x.change(0, 1, 1, -1);
        }
        x.play(0);
        Due.due("has(0) of sixty", x.has(0), 0xfffffffffffffffL);
        Due.due("release(0, 2) of sixty", x.release(0, 2), 60);
        BranchPlay none = withWay("every 100; test 0;");
        none.play(0);
        Due.due("has(0) of none", none.has(0), 0);
        Due.due("release(0, 2) of none", none.release(0, 2), 0);
    }

    /** has(): "-9 likewise." */
    private static void hasOfNone() {
        BranchPlay x = some();
        int many = x.play(2);
        Due.due("has(0) is there", x.has(0) >= 0 ? 1 : 0, 1);
        Due.due("has(last) is there", x.has(many - 1) >= 0 ? 1 : 0, 1);
        for (int wild : new int[] {-1, many, many + 1, 258, 259, 260, MIN, MAX}) {
            Due.due("has(" + wild + ")", x.has(wild), -9);
        }
    }

    /** "the sum of all WAITS (of those that were OUT), 1: the longest (0 without)". */
    private static void waits() {
        BranchPlay x = withWay("every 100; ahead 1; test 0;");
        x.change(350, 1, 1, -1);
        x.play(0);
        Due.due("sum(0) of none out", x.sum(0), 0);
        Due.due("sum(1) of none out", x.sum(1), 0);
        // The shortest is two ticks: merged at the cut. The longest: from tick 0 to a release at 399.
        BranchPlay y = withWay("every 57; ahead 1; test 0; rework 9; queue 9;");
        y.change(397, 1, 1, -1);
        y.change(0, 2, 1, -1);
        y.change(396, 4, 1, -1);
        y.change(0, 4, 20, -1);
        y.hang(3, 2);
        y.play(0);
        Due.due("told(0, 2)", y.told(0, 2), 399);
        Due.due("told(3, 1)", y.told(3, 1), -1);
        Due.due("sum(0)", y.sum(0), 2 + 57 + 3);
        Due.due("sum(1)", y.sum(1), 57);
        // The first of all may be the longest.
        BranchPlay first = withWay("every 100; test 0;");
        first.change(0, 1, 1, -1);
        first.change(9, 2, 1, -1);
        first.play(0);
        Due.due("sum(1) of the first of all", first.sum(1), 100);
        BranchPlay z = withWay("every 57; ahead 1; test 0; rework 0; queue 9;");
        z.change(396, 4, 1, -1);
        z.change(0, 4, 20, -1);
        z.hang(1, 0);
        z.play(0);
        Due.due("told(1, 2)", z.told(1, 2), 399);
        Due.due("sum(0)", z.sum(0), 3 + 399);
        Due.due("sum(1)", z.sum(1), 399);
    }

    /** "how many were never OUT (of those born)". */
    private static void neverOutOfThoseBorn() {
        BranchPlay x = withWay("every 100; test 0; rework 0;");
        x.change(0, 1, 1, 1);
        x.change(399, 1, 1, 1);
        x.change(0, 1, 1, -1);
        x.change(0, 1, 1, -1);
        x.fix(2, 1);
        x.fix(3, 0);
        x.play(0);
        // 1 was born and never out; its fix 2 was never born; 3 was out.
        Due.due("sum(2)", x.sum(2), 1);
        Due.due("sum(3)", x.sum(3), 1);
        Due.due("sum(5)", x.sum(5), 3);
        // One that was out once, and is in no later release, was out.
        BranchPlay y = withWay("every 100; ahead 50; hot 1; test 0; pick none;");
        y.change(249, 1, 1, 60);
        y.change(0, 2, 1, -1);
        y.fix(1, 0);
        y.play(0);
        Due.due("told(1, 2)", y.told(1, 2), 362);
        Due.due("sum(2) of one out hot alone", y.sum(2), 0);
    }

    /** "the greatest number of CHANGES born and not merged at the end of a tick." */
    private static void mostBornAndNotMerged() {
        for (int many : new int[] {0, 1, 2, 59, 60}) {
            BranchPlay x = withWay("queue 9;");
            for (int c = 0; c < many; c++) {
                x.change(0, 1 << c % 30, 1, -1);
            }
            x.play(0);
            Due.due("sum(7) of " + many + " at once", x.sum(7), many);
        }
        // At the end of the tick: one is merged at the tick at which the next is born.
        BranchPlay x = withWay("");
        for (int c = 0; c < 20; c++) {
            x.change(c, 1 << c, 1, -1);
        }
        x.play(0);
        Due.due("sum(7) of one by one", x.sum(7), 1);
        // A tick of the last ones counts, too.
        BranchPlay y = withWay("");
        y.change(0, 1, 1, -1);
        y.change(399, 2, 1, -1);
        y.change(399, 4, 1, -1);
        y.play(0);
        Due.due("sum(7) at the last tick", y.sum(7), 2);
    }

    /** sum(): "-9 likewise." */
    private static void sumOfNone() {
        BranchPlay x = some();
        x.play(3);
        for (int what = 0; what < 8; what++) {
            Due.due("sum(" + what + ") is there", x.sum(what) >= 0 ? 1 : 0, 1);
        }
        for (int wild : new int[] {-1, 8, 9, MIN, MAX}) {
            Due.due("sum(" + wild + ")", x.sum(wild), -9);
        }
    }
}
