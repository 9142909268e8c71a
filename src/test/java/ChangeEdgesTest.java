/** The edges that the document names for changes, a sentence each: Terms I, promises 7 to 10. */
public final class ChangeEdgesTest {
    private static final int MIN = Integer.MIN_VALUE;
    private static final int MAX = Integer.MAX_VALUE;
    private static final int ALL_REGIONS = (1 << 30) - 1;

    public static void main(String[] args) {
        births();
        regions();
        sizes();
        breaks();
        sixtyAtMost();
        fullBesideRange();
        lesserOnes();
        threeAtMost();
        toldAlready();
        refusedHangLeavesAll();
        fixOfLesserWithBreak();
        oneFixEach();
        refusedFixLeavesAll();
        fixOfFix();
        birthOfAFix();
        aboutNone();
        hangsAsTold();
        Due.finish();
    }

    private static String name(int birth, int regions, int size, int breaks) {
        return "change(" + birth + ", " + regions + ", " + size + ", " + breaks + ")";
    }

    /** Five changes: 0 and 2 break, 3 is the fix of 2, 4 hangs on three; and a play. */
    private static BranchPlay some() {
        BranchPlay x = new BranchPlay();
        x.change(0, 1, 1, 5);
        x.change(3, 3, 2, -1);
        x.change(5, 4, 3, 7);
        x.change(0, 4, 1, -1);
        x.change(9, 8, 1, -1);
        x.fix(3, 2);
        x.hang(4, 2);
        x.hang(4, 0);
        x.hang(4, 3);
        x.hang(1, 0);
        x.prices(3, 4, 5, 6);
        x.play(2);
        return x;
    }

    private static void taken(int birth, int regions, int size, int breaks) {
        BranchPlay x = some();
        Due.due(name(birth, regions, size, breaks), x.change(birth, regions, size, breaks), 5);
        Due.due("count(0)", x.count(0), 6);
        int[] told = {birth, regions, size, breaks, -1, -1, 0, -9, -9, -9, -9};
        for (int what = 0; what < told.length; what++) {
            Due.due("about(5, " + what + ") of " + name(birth, regions, size, breaks),
                x.about(5, what), told[what]);
        }
    }

    private static void refused(int birth, int regions, int size, int breaks) {
        BranchPlay x = some();
        String ahead = Seen.of(x);
        Due.due(name(birth, regions, size, breaks), x.change(birth, regions, size, breaks), -2);
        Seen.same(name(birth, regions, size, breaks), ahead, x);
        Due.due("the next change's number", x.change(0, 1, 1, -1), 5);
    }

    /** "a BIRTH (a tick 0 .. 399)". */
    private static void births() {
        for (int birth : new int[] {0, 1, 398, 399}) {
            taken(birth, 1, 1, -1);
        }
        for (int birth : new int[] {-1, -2, 400, 401, MIN, MAX}) {
            refused(birth, 1, 1, -1);
        }
    }

    /** "REGIONS that it touches (bits 0 .. 29, one or more)". */
    private static void regions() {
        for (int bit = 0; bit < 32; bit++) {
            int others = ALL_REGIONS & ~(1 << bit);
            if (bit < 30) {
                taken(0, 1 << bit, 1, -1);
                taken(0, others, 1, -1);
            } else {
                refused(0, 1 << bit, 1, -1);
                refused(0, 1 << bit | 1, 1, -1);
                refused(0, 1 << bit | ALL_REGIONS, 1, -1);
            }
        }
        taken(0, ALL_REGIONS, 1, -1);
        refused(0, 0, 1, -1);
        refused(0, -1, 1, -1);
        refused(0, MAX, 1, -1);
    }

    /** "a size of 1 .. 20 ticks". */
    private static void sizes() {
        for (int size = 1; size <= 20; size++) {
            taken(0, 1, size, -1);
        }
        for (int size : new int[] {0, -1, 21, 22, MIN, MAX}) {
            refused(0, 1, size, -1);
        }
    }

    /** "found so many ticks (1 .. 100) after it was let out, or none", "(breaks NONE: no BREAK)". */
    private static void breaks() {
        for (int breaks : new int[] {-1, 1, 2, 99, 100}) {
            taken(0, 1, 1, breaks);
        }
        for (int breaks : new int[] {0, -2, -3, -9, 101, 102, MIN, MAX}) {
            refused(0, 1, 1, breaks);
        }
    }

    private static BranchPlay sixty() {
        BranchPlay x = new BranchPlay();
        for (int c = 0; c < 60; c++) {
            Due.due("change " + c, x.change(c, c + 1, 1 + c % 20, 1 + c), c);
        }
        return x;
    }

    /** "CHANGES, at most 60, numbered from 0 as they come", "FULL". */
    private static void sixtyAtMost() {
        BranchPlay x = sixty();
        x.hang(59, 58);
        x.fix(59, 0);
        x.play(1);
        String ahead = Seen.of(x);
        for (int more = 0; more < 3; more++) {
            Due.due("one more than sixty", x.change(5, 5, 5, 5), -3);
            Seen.same("one more than sixty", ahead, x);
        }
        for (int c = 0; c < 60; c++) {
            Due.due("about(" + c + ", 0)", x.about(c, 0), c);
            Due.due("about(" + c + ", 1)", x.about(c, 1), c + 1);
            Due.due("about(" + c + ", 3)", x.about(c, 3), c + 1);
        }
        Due.due("about(60, 0)", x.about(60, 0), -9);
        Due.due("told(59, 0) is there", x.told(59, 0) == -9 ? 1 : 0, 0);
        Due.due("told(60, 0)", x.told(60, 0), -9);
        // Full of changes, it can be told what they hang on and mend yet.
        Due.due("hang(59, 0) of sixty", x.hang(59, 0), 2);
        Due.due("hang(60, 0) of sixty", x.hang(60, 0), -2);
        Due.due("hang(60, 59) of sixty", x.hang(60, 59), -2);
        Due.due("fix(58, 57) of sixty", x.fix(58, 57), 1);
        Due.due("fix(60, 56) of sixty", x.fix(60, 56), -2);
    }

    /** "RANGE; FULL", in this order: a change that can't be is RANGE though there is no room. */
    private static void fullBesideRange() {
        BranchPlay x = sixty();
        Due.due("sixty and birth 400", x.change(400, 1, 1, -1), -2);
        Due.due("sixty and no region", x.change(0, 0, 1, -1), -2);
        Due.due("sixty and size 21", x.change(0, 1, 21, -1), -2);
        Due.due("sixty and break 0", x.change(0, 1, 1, 0), -2);
        Due.due("sixty and all within bounds", x.change(0, 1, 1, -1), -3);
    }

    private static BranchPlay plain(int many) {
        BranchPlay x = new BranchPlay();
        for (int c = 0; c < many; c++) {
            x.change(0, 1, 1, 1);
        }
        return x;
    }

    /** "CHANGE c hangs on a lesser one", "CHANGE c is the FIX of a lesser one", else RANGE. */
    private static void lesserOnes() {
        for (int c = -2; c <= 6; c++) {
            for (int lesser = -2; lesser <= 6; lesser++) {
                boolean is = c < 5 && lesser >= 0 && lesser < c;
                String pair = "(" + c + ", " + lesser + ") of five";
                Due.due("hang" + pair, plain(5).hang(c, lesser), is ? 1 : -2);
                Due.due("fix" + pair, plain(5).fix(c, lesser), is ? 1 : -2);
            }
        }
        for (int wild : new int[] {59, 60, 64, 68, MIN, MAX, MIN + 1}) {
            Due.due("hang(" + wild + ", 0)", plain(5).hang(wild, 0), -2);
            Due.due("hang(4, " + wild + ")", plain(5).hang(4, wild), -2);
            Due.due("hang(" + wild + ", " + wild + ")", plain(5).hang(wild, wild), -2);
            Due.due("fix(" + wild + ", 0)", plain(5).fix(wild, 0), -2);
            Due.due("fix(4, " + wild + ")", plain(5).fix(4, wild), -2);
            Due.due("fix(" + wild + ", " + wild + ")", plain(5).fix(wild, wild), -2);
        }
    }

    /** "It may hang on at most 3 lesser ones", "FULL: on three others." */
    private static void threeAtMost() {
        BranchPlay x = plain(60);
        for (int c : new int[] {4, 59}) {
            Due.due("hang, the first", x.hang(c, c - 1), 1);
            Due.due("hang, the second", x.hang(c, 0), 2);
            Due.due("hang, the third", x.hang(c, 2), 3);
            String ahead = Seen.of(x);
            Due.due("hang, a fourth", x.hang(c, 1), -3);
            Seen.same("hang, a fourth", ahead, x);
            Due.due("about(" + c + ", 6)", x.about(c, 6), 3);
            Due.due("about(" + c + ", 13)", x.about(c, 13), -9);
            // No lesser one at all is RANGE, though there is no room.
            Due.due("hang on itself", x.hang(c, c), -2);
            Due.due("hang on none", x.hang(c, -1), -2);
        }
        // Only three are lesser than 3, and it may hang on all.
        Due.due("hang(3, 0)", x.hang(3, 0), 1);
        Due.due("hang(3, 1)", x.hang(3, 1), 2);
        Due.due("hang(3, 2)", x.hang(3, 2), 3);
        // Many may hang on one.
        for (int c = 5; c < 59; c++) {
            Due.due("hang(" + c + ", 4)", x.hang(c, 4), 1);
        }
    }

    /** "on how many then (one that was told already is none more)", with three, too. */
    private static void toldAlready() {
        BranchPlay x = plain(6);
        for (int many = 1; many <= 3; many++) {
            Due.due("hang(5, " + many + ")", x.hang(5, many), many);
            x.play(0);
            String ahead = Seen.of(x);
            for (int on = 1; on <= many; on++) {
                Due.due("hang(5, " + on + ") again", x.hang(5, on), many);
            }
            Seen.same("hang() told already", ahead, x);
        }
        Due.due("hang(5, 4), a fourth", x.hang(5, 4), -3);
        Due.due("hang(5, 3) behind FULL", x.hang(5, 3), 3);
        Due.due("hang(4, 3), another's", x.hang(4, 3), 1);
    }

    /** "RANGE" and "FULL" of hang(): nothing is told by it. */
    private static void refusedHangLeavesAll() {
        int[][] calls = {{0, 0}, {1, 1}, {1, 2}, {0, 1}, {4, 4}, {4, 5}, {5, 0}, {5, 4}, {-1, 0}, {1, -1},
            {-1, -2}, {MAX, 0}, {MIN, 0}, {4, MIN}, {4, MAX}, {60, 59}};
        for (int[] call : calls) {
            BranchPlay x = some();
            String ahead = Seen.of(x);
            Due.due("hang(" + call[0] + ", " + call[1] + ")", x.hang(call[0], call[1]), -2);
            Seen.same("hang(" + call[0] + ", " + call[1] + ")", ahead, x);
        }
        BranchPlay x = some();
        String ahead = Seen.of(x);
        Due.due("hang(4, 1), a fourth", x.hang(4, 1), -3);
        Seen.same("hang(4, 1), a fourth", ahead, x);
    }

    /** "be a FIX of one lesser one that has a BREAK", "RANGE: .. it has no BREAK". */
    private static void fixOfLesserWithBreak() {
        for (int breaks : new int[] {-1, 1, 2, 99, 100}) {
            BranchPlay x = new BranchPlay();
            x.change(0, 1, 1, breaks);
            x.change(0, 1, 1, -1);
            Due.due("fix(1, 0) of break " + breaks, x.fix(1, 0), breaks == -1 ? -2 : 1);
            Due.due("about(1, 4)", x.about(1, 4), breaks == -1 ? -1 : 0);
            Due.due("about(0, 5)", x.about(0, 5), breaks == -1 ? -1 : 1);
        }
        // The fix's own break is not what is asked for.
        BranchPlay x = new BranchPlay();
        x.change(0, 1, 1, -1);
        x.change(0, 1, 1, 9);
        Due.due("fix(1, 0) with a break of its own", x.fix(1, 0), -2);
    }

    /** "(of one at most; a CHANGE has one FIX at most)", "or a FIX; c is one already." */
    private static void oneFixEach() {
        BranchPlay x = plain(6);
        Due.due("fix(3, 1)", x.fix(3, 1), 1);
        String ahead = Seen.of(x);
        Due.due("fix(3, 1) again", x.fix(3, 1), -2);
        Due.due("fix(4, 1): it has a fix", x.fix(4, 1), -2);
        Due.due("fix(2, 1): it has a fix", x.fix(2, 1), -2);
        Due.due("fix(3, 0): it is one already", x.fix(3, 0), -2);
        Due.due("fix(3, 2): it is one already", x.fix(3, 2), -2);
        Seen.same("a second fix", ahead, x);
        // Neither hinders the other two of 0, 2, 4, 5.
        Due.due("fix(2, 0)", x.fix(2, 0), 1);
        Due.due("fix(5, 4)", x.fix(5, 4), 1);
    }

    /** "RANGE" of fix(): nothing is told by it. */
    private static void refusedFixLeavesAll() {
        int[][] calls = {{0, 0}, {2, 2}, {0, 2}, {2, 1}, {4, 2}, {3, 0}, {3, 2}, {5, 0}, {-1, 0}, {1, -1},
            {MAX, 0}, {MIN, 0}, {4, MAX}, {4, MIN}, {60, 0}};
        for (int[] call : calls) {
            BranchPlay x = some();
            String ahead = Seen.of(x);
            Due.due("fix(" + call[0] + ", " + call[1] + ")", x.fix(call[0], call[1]), -2);
            Seen.same("fix(" + call[0] + ", " + call[1] + ")", ahead, x);
        }
    }

    /** "a CHANGE has one FIX at most": each may be a fix and have one, so all sixty may be one chain. */
    private static void fixOfFix() {
        BranchPlay x = sixty();
        for (int c = 1; c < 60; c++) {
            Due.due("fix(" + c + ", " + (c - 1) + ")", x.fix(c, c - 1), 1);
        }
        for (int c = 0; c < 60; c++) {
            Due.due("about(" + c + ", 4)", x.about(c, 4), c - 1);
            Due.due("about(" + c + ", 5)", x.about(c, 5), c == 59 ? -1 : c + 1);
        }
    }

    /** "then its BIRTH is when that BREAK is MET", whatever change() was told; never, if it never is. */
    private static void birthOfAFix() {
        for (int birth : new int[] {0, 7, 110, 399}) {
            BranchPlay x = new BranchPlay();
            Due.way(x, 0, "every 100; test 0;");
            x.change(0, 1, 1, 10);
            x.change(birth, 2, 1, -1);
            x.fix(1, 0);
            x.play(0);
            Due.due("told(1, 0) of a fix told to be born at " + birth, x.told(1, 0), 110);
            Due.due("sum(5) with a fix told to be born at " + birth, x.sum(5), 2);
            BranchPlay y = new BranchPlay();
            Due.way(y, 0, "every 100; test 0;");
            y.change(399, 1, 1, 10);
            y.change(birth, 2, 1, -1);
            y.fix(1, 0);
            y.play(0);
            Due.due("told(1, 0) of a break that is never met", y.told(1, 0), -1);
            Due.due("sum(5) of a break that is never met", y.sum(5), 1);
        }
    }

    /** "-9 when there is none such." */
    private static void aboutNone() {
        BranchPlay x = some();
        for (int c : new int[] {-1, 5, 6, 59, 60, 64, MIN, MAX}) {
            for (int what = -1; what < 14; what++) {
                Due.due("about(" + c + ", " + what + ")", x.about(c, what), -9);
            }
        }
        for (int what : new int[] {-1, -9, 7, 8, 9, 13, 14, MIN, MAX}) {
            for (int c = 0; c < 5; c++) {
                Due.due("about(" + c + ", " + what + ")", x.about(c, what), -9);
            }
        }
        // NONE is not -9: there is such a thing to ask for, but none was told.
        Due.due("about(1, 3)", x.about(1, 3), -1);
        Due.due("about(1, 4)", x.about(1, 4), -1);
        Due.due("about(1, 5)", x.about(1, 5), -1);
        Due.due("about(0, 6)", x.about(0, 6), 0);
    }

    /** "10 + i: the i-th of these, as told." */
    private static void hangsAsTold() {
        BranchPlay x = plain(60);
        int[] on = {58, 0, 31};
        for (int many = 0; many <= 3; many++) {
            Due.due("about(59, 6)", x.about(59, 6), many);
            for (int i = -1; i < 5; i++) {
                Due.due("about(59, " + (10 + i) + ") of " + many, x.about(59, 10 + i),
                    i >= 0 && i < many ? on[i] : -9);
            }
            if (many < 3) {
                x.hang(59, on[many]);
            }
        }
        Due.due("about(58, 6)", x.about(58, 6), 0);
        Due.due("about(58, 10)", x.about(58, 10), -9);
    }
}
