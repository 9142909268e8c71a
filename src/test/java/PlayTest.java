/** Promises 11 to 15: play, told, release, has, sum. Each play here was worked out by hand. */
public final class PlayTest {
    public static void main(String[] args) {
        releaseTicks();
        testedAndHeld();
        heldWithWhatItHangsOn();
        hotRelease();
        hotReleaseLostAgain();
        hotReleaseNotDue();
        breaks();
        breakNotOutNow();
        freeze();
        longFreeze();
        quarrels();
        quarrelSkippedByQueue();
        queueOrder();
        hangOrder();
        picks();
        sums();
        staleness();
        wrongNumbers();
        Due.finish();
    }

    private static BranchPlay withWay(String text) {
        BranchPlay x = new BranchPlay();
        Due.way(x, 0, text);
        Due.due("fault(0) of <" + text + ">", x.fault(0), 0);
        return x;
    }

    private static void told(BranchPlay x, int c, int... want) {
        for (int what = 0; what < want.length; what++) {
            Due.due("told(" + c + ", " + what + ")", x.told(c, what), want[what]);
        }
    }

    private static void release(BranchPlay x, int i, int tick, int hot, long has, int held) {
        Due.due("release(" + i + ", 0)", x.release(i, 0), tick);
        Due.due("release(" + i + ", 1)", x.release(i, 1), hot);
        Due.due("release(" + i + ", 2)", x.release(i, 2), Long.bitCount(has));
        Due.due("release(" + i + ", 3)", x.release(i, 3), held);
        Due.due("has(" + i + ")", x.has(i), has);
    }

    private static void sum(BranchPlay x, int... want) {
        for (int what = 0; what < want.length; what++) {
            Due.due("sum(" + what + ")", x.sum(what), want[what]);
        }
    }

    private static void releaseTicks() {
        int[][] everyAndMany = {{5, 79}, {6, 66}, {20, 19}, {57, 7}, {99, 4}, {100, 3}};
        for (int[] e : everyAndMany) {
            BranchPlay x = withWay("every " + e[0] + ";");
            Due.due("play(0) with every " + e[0], x.play(0), e[1]);
            release(x, 0, e[0], 0, 0, 0);
            release(x, e[1] - 1, e[0] * e[1], 0, 0, 0);
            Due.due("release behind the last", x.release(e[1], 0), -9);
        }
        BranchPlay x = withWay("every 2; ahead 1;");
        Due.due("play(0) with every 2", x.play(0), 199);
        // The release at 399 counts; what is merged at its cut is the last that it has.
        x = withWay("every 57; ahead 1; test 1;");
        x.change(397, 1, 1, -1);
        x.change(396, 2, 1, -1);
        x.play(0);
        told(x, 0, 397, 398, 399);
        told(x, 1, 396, 397, 399);
        x = withWay("every 57; ahead 1; test 1;");
        x.change(398, 1, 2, -1);
        x.change(340, 2, 1, -1);
        x.play(0);
        told(x, 0, 398, -1, -1);
        told(x, 1, 340, 341, 342);
    }

    private static void testedAndHeld() {
        BranchPlay x = withWay("every 10; ahead 1; test 3; pick none;");
        x.change(0, 1, 7, -1);
        x.change(0, 2, 8, -1);
        x.change(0, 4, 9, -1);
        x.change(0, 8, 10, -1);
        Due.due("play(0)", x.play(0), 39);
        release(x, 0, 10, 0, 1, 2);
        release(x, 1, 20, 0, 15, 0);
        told(x, 0, 0, 7, 10, -1, 0, 0, 0);
        told(x, 1, 0, 8, 20, -1, 0, 0, 1);
        told(x, 2, 0, 9, 20, -1, 0, 0, 1);
        told(x, 3, 0, 10, 20, -1, 0, 0, 0);
        sum(x, 70, 20, 0, 0, 0, 34, 2, 4);
    }

    private static void heldWithWhatItHangsOn() {
        BranchPlay x = withWay("every 10; ahead 2; test 2; pick all; rework 0;");
        x.change(0, 1, 9, -1);
        x.change(0, 1, 9, -1);
        x.change(0, 1, 2, -1);
        x.change(0, 1, 1, -1);
        x.hang(1, 0);
        x.hang(3, 2);
        x.play(0);
        // 0 and 1 are picked one tick ahead of the release.
        release(x, 0, 10, 0, 12, 2);
        release(x, 1, 20, 0, 15, 0);
        told(x, 1, 0, 9, 20, -1, 0, 0, 1);
        told(x, 3, 0, 3, 10, -1, 0, 0, 0);

        // It hangs on a fix that was let out hot, but is not on the branch.
        x = withWay("every 20; ahead 18; test 0; pick none; hot 1; rework 0;");
        x.change(0, 1, 1, 17);
        x.change(0, 1, 1, -1);
        x.change(0, 1, 1, -1);
        x.fix(1, 0);
        x.hang(2, 1);
        x.play(0);
        // Merged 1, on the branch cut at 2, out 20, met 37: its fix is merged 38 and out 39.
        release(x, 0, 20, 0, 1, 0);
        release(x, 1, 39, 1, 3, 0);
        release(x, 2, 40, 0, 1, 0);
        release(x, 3, 60, 0, 7, 0);
        told(x, 2, 0, 38, 60, -1, 0, 0, 0);

        // Held twice: what it hangs on is always too young on the first branch.
        x = withWay("every 10; ahead 1; test 8; rework 0;");
        x.change(0, 1, 3, -1);
        x.change(0, 1, 1, -1);
        x.change(0, 1, 1, -1);
        x.hang(2, 0);
        x.hang(2, 1);
        x.play(0);
        release(x, 0, 10, 0, 2, 2);
        told(x, 0, 0, 3, 20, -1, 0, 0, 1);
        told(x, 2, 0, 4, 20, -1, 0, 0, 1);
    }

    private static void hotRelease() {
        BranchPlay x = withWay("every 100; ahead 10; hot 2; test 0;");
        x.change(0, 1, 1, 5);
        x.change(0, 1, 3, -1);
        x.fix(1, 0);
        Due.due("play(0)", x.play(0), 4);
        release(x, 0, 100, 0, 1, 0);
        release(x, 1, 110, 1, 3, 0);
        release(x, 2, 200, 0, 3, 0);
        told(x, 0, 0, 1, 100, 105, 0, 0, 0);
        told(x, 1, 105, 108, 110, -1, 0, 0, 0);
        sum(x, 105, 100, 0, 1, 0, 4, 0, 1);

        // Two fixes at one tick, each a release of its own, by number.
        x = withWay("every 100; hot 3; test 0; rework 0;");
        x.change(0, 1, 1, 5);
        x.change(0, 1, 1, 5);
        x.change(0, 1, 2, -1);
        x.change(0, 1, 2, -1);
        x.fix(2, 1);
        x.fix(3, 0);
        Due.due("play(0) with two hot", x.play(0), 5);
        release(x, 0, 100, 0, 3, 0);
        release(x, 1, 110, 1, 7, 0);
        release(x, 2, 110, 1, 15, 0);
        release(x, 3, 200, 0, 15, 0);

        // A hot fix whatever it hangs on. It is gone to ahead of 1 at 80, so it is merged at 81.
        x = withWay("every 50; ahead 1; hot 1; test 40; rework 0;");
        x.change(0, 1, 1, 5);
        x.change(60, 1, 20, -1);
        x.change(0, 1, 1, -1);
        x.fix(2, 0);
        x.hang(2, 1);
        Due.due("play(0) of a hanging fix", x.play(0), 8);
        told(x, 2, 55, 81, 82, -1, 0, 0, 1);
        release(x, 1, 82, 1, 5, 0);
        release(x, 2, 100, 0, 1, 2);
        release(x, 3, 150, 0, 7, 0);
    }

    private static void hotReleaseLostAgain() {
        BranchPlay x = withWay("every 20; ahead 10; hot 1; test 0; pick none;");
        x.change(0, 1, 1, 12);
        x.change(0, 2, 1, -1);
        x.fix(1, 0);
        x.play(0);
        release(x, 0, 20, 0, 1, 0);
        release(x, 1, 34, 1, 3, 0);
        release(x, 2, 40, 0, 1, 0);
        release(x, 3, 60, 0, 3, 0);
        told(x, 0, 0, 1, 20, 32);
        told(x, 1, 32, 33, 34);
    }

    private static void hotReleaseNotDue() {
        // The fix is out by the release of that tick already.
        BranchPlay x = withWay("every 20; ahead 5; hot 3; test 0;");
        x.change(0, 1, 1, 16);
        x.change(0, 1, 1, -1);
        x.fix(1, 0);
        Due.due("play(0)", x.play(0), 19);
        told(x, 0, 0, 1, 20, 36);
        told(x, 1, 36, 37, 40);
        // Without hot there is none.
        x = withWay("every 20; ahead 5; test 0;");
        x.change(0, 1, 1, 1);
        x.change(0, 1, 1, -1);
        x.fix(1, 0);
        Due.due("play(0) without hot", x.play(0), 19);
        told(x, 1, 21, 22, 40);
    }

    private static void breaks() {
        BranchPlay x = withWay("every 100; test 0;");
        x.change(0, 1, 1, 99);
        x.change(0, 2, 1, 100);
        x.change(150, 4, 1, 100);
        x.change(0, 8, 1, -1);
        x.change(250, 16, 1, 100);
        x.change(0, 32, 1, 1);
        x.fix(5, 1);
        x.change(77, 64, 1, -1);
        x.fix(6, 5);
        x.play(0);
        told(x, 0, 0, 1, 100, 199);
        told(x, 1, 0, 1, 100, 200);
        told(x, 2, 150, 151, 200, 300);
        told(x, 3, 0, 1, 100, -1);
        told(x, 4, 250, 251, 300, -1);
        // A fix with a break of its own, and its fix in turn.
        told(x, 5, 200, 201, 300, 301);
        told(x, 6, 301, 302, -1, -1);
        sum(x, 100 + 100 + 50 + 100 + 50 + 100, 100, 1, 4, 0, 7, 0, 3);
        // A fix whose break is never met is never born.
        x = withWay("every 100;");
        x.change(0, 1, 1, 1);
        x.change(0, 1, 20, -1);
        x.fix(1, 0);
        x.hang(0, 0);
        x.change(0, 2, 1, -1);
        x.hang(2, 1);
        x.play(0);
        told(x, 1, 101, 121, 200);
        told(x, 2, 0, 121, 200);
        BranchPlay y = withWay("every 100;");
        y.change(399, 1, 1, 1);
        y.change(0, 1, 20, -1);
        y.fix(1, 0);
        y.play(0);
        told(y, 0, 399, -1, -1, -1, 0, 0, 0);
        told(y, 1, -1, -1, -1, -1, 0, 0, 0);
        sum(y, 0, 0, 1, 0, 0, 1, 0, 1);
    }

    private static void breakNotOutNow() {
        // The fix 1 goes out hot at 34, is not in the release at 40, and its break is due at 44.
        BranchPlay x = withWay("every 20; ahead 10; hot 1; test 0; pick none;");
        x.change(0, 1, 1, 12);
        x.change(0, 2, 1, 10);
        x.fix(1, 0);
        x.change(0, 4, 1, -1);
        x.fix(2, 1);
        x.play(0);
        told(x, 1, 32, 33, 34, -1);
        told(x, 2, -1, -1, -1, -1);
        Due.due("sum(3)", x.sum(3), 1);
        // With a break that is due at 39 it is met: it is out yet.
        x = withWay("every 20; ahead 10; hot 1; test 0; pick none;");
        x.change(0, 1, 1, 12);
        x.change(0, 2, 1, 5);
        x.fix(1, 0);
        x.change(0, 4, 1, -1);
        x.fix(2, 1);
        x.play(0);
        told(x, 1, 32, 33, 34, 39);
        told(x, 2, 39, 40, 60, -1);
    }

    private static void freeze() {
        // Cut at 15, frozen 11 .. 14.
        BranchPlay x = withWay("every 20; ahead 5; freeze 4; test 0; queue 9;");
        x.change(9, 1, 1, -1);
        x.change(10, 2, 1, -1);
        x.change(13, 4, 1, -1);
        x.change(15, 8, 1, -1);
        x.play(0);
        told(x, 0, 9, 10, 20);
        told(x, 1, 10, 15, 20);
        told(x, 2, 13, 15, 20);
        told(x, 3, 15, 16, 40);
        // A fix is merged in the freeze ticks, and others have no quarrel there.
        x = withWay("every 20; ahead 5; freeze 4; test 0; queue 9;");
        x.change(0, 1, 1, 11);
        x.change(0, 2, 1, -1);
        x.fix(1, 0);
        x.change(31, 2, 1, -1);
        x.play(0);
        told(x, 1, 31, 32, 40, -1, 0, 0);
        told(x, 2, 31, 36, 60, -1, 1, 1);
    }

    private static void longFreeze() {
        BranchPlay x = withWay("every 20; ahead 5; freeze 50; test 0;");
        x.change(0, 1, 1, -1);
        x.change(15, 2, 1, -1);
        x.change(14, 4, 1, -1);
        // The last release is at 380, so no cut is ahead behind 375.
        x.change(374, 8, 2, -1);
        x.change(373, 16, 1, -1);
        x.play(0);
        told(x, 0, 0, 15, 20);
        told(x, 1, 15, 35, 40);
        told(x, 2, 14, 15, 20);
        told(x, 3, 374, 376, -1);
        told(x, 4, 373, 375, 380);
    }

    private static void quarrels() {
        BranchPlay x = withWay("rework 2; test 0;");
        x.change(0, 7, 5, -1);
        x.change(0, 3, 5, -1);
        x.change(0, 1, 9, -1);
        x.play(0);
        told(x, 0, 0, 5, 20, -1, 0, 0, 0);
        told(x, 1, 0, 9, 20, -1, 1, 4, 0);
        told(x, 2, 0, 11, 20, -1, 1, 2, 0);
        sum(x, 60, 20, 0, 0, 2, 25, 0, 3);
        // Born when it is merged: that is in its base, and no quarrel.
        x = withWay("rework 9; test 0;");
        x.change(0, 7, 5, -1);
        x.change(6, 7, 1, -1);
        x.change(5, 7, 3, -1);
        x.play(0);
        told(x, 1, 6, 7, 20, -1, 0, 0, 0);
        // 2 is born ahead of the merge of 0 at the same tick; 27 ticks of rework.
        told(x, 2, 5, 35, 40, -1, 1, 27, 0);
        // A second quarrel, with what was merged behind the first.
        x = withWay("rework 1; test 0;");
        x.change(0, 1, 2, -1);
        x.change(0, 1, 3, -1);
        x.change(0, 1, 4, -1);
        x.change(0, 1, 4, -1);
        x.play(0);
        told(x, 1, 0, 4, 20, -1, 1, 1, 0);
        // Ready at 4 all three: 1 was sent to 4 and is merged; 2, 3 quarrel to 5; 3 again to 6.
        told(x, 2, 0, 5, 20, -1, 1, 1, 0);
        told(x, 3, 0, 6, 20, -1, 2, 2, 0);
        x = withWay("rework 0; test 0;");
        x.change(0, 1, 2, -1);
        x.change(0, 1, 3, -1);
        x.play(0);
        told(x, 1, 0, 3, 20, -1, 0, 0, 0);
        // Rework that ends behind the last tick counts whole.
        x = withWay("rework 9;");
        x.change(390, 1023, 5, -1);
        x.change(390, 1023, 5, -1);
        x.play(0);
        told(x, 1, 390, -1, -1, -1, 1, 90, 0);
        sum(x, 0, 0, 2, 0, 1, 100, 0, 2);
    }

    private static void quarrelSkippedByQueue() {
        BranchPlay x = withWay("queue 1; rework 3; test 0;");
        x.change(0, 1, 2, -1);
        x.change(0, 1, 2, -1);
        x.change(0, 2, 2, -1);
        x.play(0);
        // At 2 only 0 is gone to; at 3 the quarrel of 1 leaves room for 2.
        told(x, 0, 0, 2, 20, -1, 0, 0, 0);
        told(x, 1, 0, 6, 20, -1, 1, 3, 0);
        told(x, 2, 0, 3, 20, -1, 0, 0, 0);
    }

    private static void queueOrder() {
        BranchPlay x = withWay("queue 2; rework 0; test 0; every 40; pick all;");
        x.change(0, 1, 1, 3);
        x.change(41, 1, 3, -1);
        x.change(42, 1, 2, -1);
        x.change(42, 1, 1, -1);
        x.change(42, 1, 2, -1);
        x.change(0, 1, 1, -1);
        x.change(0, 1, 1, -1);
        x.hang(1, 0);
        x.fix(6, 0);
        x.play(0);
        told(x, 0, 0, 1, 40, 43);
        told(x, 3, 42, 43, 80);
        // 44: the fix, then the least number of those ready at 44.
        told(x, 6, 43, 44, 80);
        told(x, 1, 41, 44, 80);
        told(x, 2, 42, 45, 80);
        told(x, 4, 42, 45, 80);
        told(x, 5, 0, 1, 40);
        Due.due("sum(7)", x.sum(7), 4);
        // Who is ready earlier goes ahead of a lesser number.
        x = withWay("queue 1; rework 0; test 0;");
        x.change(0, 1, 3, -1);
        x.change(0, 1, 2, -1);
        x.change(0, 1, 2, -1);
        x.play(0);
        told(x, 1, 0, 2);
        told(x, 2, 0, 3);
        told(x, 0, 0, 4);
    }

    private static void hangOrder() {
        // Both at one tick, for they are gone through by number.
        BranchPlay x = withWay("rework 0; test 0;");
        x.change(0, 1, 4, -1);
        x.change(0, 1, 4, -1);
        x.change(0, 1, 2, -1);
        x.hang(1, 0);
        x.hang(2, 0);
        x.play(0);
        told(x, 0, 0, 4);
        told(x, 1, 0, 4);
        // 2 was ready first and gone to ahead of 0: it is not gone to again.
        told(x, 2, 0, 5);
    }

    private static void picks() {
        int[][] want = {{20, 60, 60}, {20, 40, 60}, {20, 40, 40}};
        String[] words = {"none", "fixes", "all"};
        for (int p = 0; p < 3; p++) {
            // The branch is cut at 30; the fix is merged at 33, the other at 34.
            BranchPlay x = withWay("every 20; ahead 10; test 0; pick " + words[p] + ";");
            x.change(0, 1, 1, 12);
            x.change(0, 2, 1, -1);
            x.fix(1, 0);
            x.change(33, 4, 1, -1);
            x.play(0);
            for (int c = 0; c < 3; c++) {
                Due.due("pick " + words[p] + ": told(" + c + ", 2)", x.told(c, 2), want[p][c]);
            }
        }
        // What is merged at the release's tick is on no branch; at the cut's it is.
        BranchPlay x = withWay("every 20; ahead 10; test 0; pick all;");
        x.change(19, 1, 1, -1);
        x.change(9, 2, 1, -1);
        x.change(18, 4, 1, -1);
        x.play(0);
        told(x, 0, 19, 20, 40);
        told(x, 1, 9, 10, 20);
        told(x, 2, 18, 19, 20);
        x = withWay("every 20; ahead 10; test 0; pick none;");
        x.change(9, 1, 1, -1);
        x.change(10, 2, 1, -1);
        x.play(0);
        told(x, 0, 9, 10, 20);
        told(x, 1, 10, 11, 40);
        // A pick is tested since its merge.
        x = withWay("every 20; ahead 10; test 5; pick all;");
        x.change(14, 1, 1, -1);
        x.change(15, 2, 1, -1);
        x.play(0);
        told(x, 0, 14, 15, 20, -1, 0, 0, 0);
        told(x, 1, 15, 16, 40, -1, 0, 0, 1);
    }

    private static void sums() {
        BranchPlay x = new BranchPlay();
        x.play(3);
        sum(x, 0, 0, 0, 0, 0, 0, 0, 0, -9);
        Due.due("sum(-1)", x.sum(-1), -9);
        Due.due("sum(max)", x.sum(Integer.MAX_VALUE), -9);
        x.change(0, 1, 1, -1);
        x.change(5, 1, 20, -1);
        x.change(390, 2, 3, -1);
        x.play(3);
        // 1 quarrels at no tick: 0 is in its base.
        told(x, 1, 5, 25, 40);
        sum(x, 20 + 35, 35, 1, 0, 0, 24, 0, 1);
    }

    private static void staleness() {
        BranchPlay x = new BranchPlay();
        x.play(2);
        Due.due("count(2) of no changes", x.count(2), 2);
        Due.due("release(0, 0) of no changes", x.release(0, 0), 20);
        x.change(0, 1, 1, 9);
        Due.due("count(2) behind the first change", x.count(2), -1);
        Due.due("release(0, 0) behind the first change", x.release(0, 0), -9);
        x.change(0, 1, 1, -1);
        for (int way = 0; way < 4; way++) {
            x.play(2);
            seen(x, "behind play", true);
            Due.due("play(4)", x.play(4), -2);
            Due.due("play(-1)", x.play(-1), -2);
            x.change(0, 0, 0, 0);
            x.hang(0, 1);
            x.fix(0, 1);
            x.way(4);
            x.parts(0, 1);
            x.costs(3);
            x.best(1, 2, 0, 9);
            x.prices(1, 2, 3, 4);
            x.feed(0, 0, 0, 0, 0);
            x.end(0);
            seen(x, "behind what tells nothing", true);
            switch (way) {
                case 0: x.change(3, 1, 1, -1); break;
                case 1: x.hang(1, 0); break;
                case 2: x.fix(1, 0); break;
                default: x.way(3); break;
            }
            seen(x, "behind what tells something, " + way, false);
        }
    }

    private static void seen(BranchPlay x, String when, boolean is) {
        Due.due("told(0, 0) " + when, x.told(0, 0), is ? 0 : -9);
        Due.due("release(0, 0) " + when, x.release(0, 0), is ? 20 : -9);
        Due.due("has(0) > 0 " + when, x.has(0) > 0 ? 1 : x.has(0), is ? 1 : -9);
        Due.due("sum(6) " + when, x.sum(6), is ? 0 : -9);
        Due.due("count(2) " + when, x.count(2), is ? 2 : -1);
    }

    private static void wrongNumbers() {
        BranchPlay x = new BranchPlay();
        x.change(0, 1, 1, -1);
        x.play(0);
        int[] none = {-1, 60, 1000, Integer.MIN_VALUE, Integer.MAX_VALUE};
        for (int n : none) {
            Due.due("play(" + n + ")", x.play(n), -2);
            Due.due("told(" + n + ", 0)", x.told(n, 0), -9);
            Due.due("told(0, " + n + ")", x.told(0, n), -9);
            Due.due("release(" + n + ", 0)", x.release(n, 0), -9);
            Due.due("release(0, " + n + ")", x.release(0, n), -9);
            Due.due("has(" + n + ")", x.has(n), -9);
            Due.due("sum(" + n + ")", x.sum(n), -9);
        }
        Due.due("told(1, 0)", x.told(1, 0), -9);
        Due.due("told(0, 7)", x.told(0, 7), -9);
        Due.due("release(0, 4)", x.release(0, 4), -9);
        Due.due("release(19, 0)", x.release(19, 0), -9);
        Due.due("has(19)", x.has(19), -9);
        // The highest bits of has().
        for (int c = 1; c < 60; c++) {
            x.change(0, 1 << c % 30, 1, -1);
        }
        Due.way(x, 0, "rework 0; queue 9;");
        x.play(0);
        Due.due("has(0) of sixty", x.has(0), (1L << 60) - 1);
    }
}
