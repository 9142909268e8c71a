/** The edges that the document names for a play's ticks, a sentence each: Terms II, (1) to (6). */
public final class TickEdgesTest {
    private static final int ALL_REGIONS = (1 << 30) - 1;

    public static void main(String[] args) {
        firstAndLastTick();
        releasesAtMultiples();
        releaseAtTheLastTick();
        testTicksOrMore();
        testTicksOfPicks();
        allItHangsOn();
        emptyRelease();
        branchIsClosed();
        outFirstOnce();
        hotTicksAgo();
        hotAtTheLastTick();
        hotWhileItIsNotOut();
        hotWhileItsChangeIsOut();
        hotByNumber();
        hotWhateverItHangsOn();
        breakTicksAgo();
        breakAtTheLastTick();
        breakOutNow();
        readySizeTicksLater();
        baseAtBirth();
        hangsOnNothingUnmerged();
        freezeTicks();
        freezeLetsFixesIn();
        freezeLongerThanEvery();
        freezeAheadOfTheLastCut();
        queueOfEach();
        orderOfMerges();
        quarrelAtThisTickToo();
        reworkForEachRegion();
        quarrelDoesNotCount();
        newBaseBehindAQuarrel();
        cutTicks();
        pickFromTheTickBehindTheCut();
        Due.finish();
    }

    private static BranchPlay withWay(String text) {
        BranchPlay x = new BranchPlay();
        Due.way(x, 0, text);
        Due.due("fault(0) of <" + text + ">", x.fault(0), 0);
        return x;
    }

    /** What told() tells of a change, from its birth on. */
    private static void told(String when, BranchPlay x, int c, int... want) {
        for (int what = 0; what < want.length; what++) {
            Due.due(when + ": told(" + c + ", " + what + ")", x.told(c, what), want[what]);
        }
    }

    private static void release(String when, BranchPlay x, int i, int tick, int hot, long has, int held) {
        Due.due(when + ": release(" + i + ", 0)", x.release(i, 0), tick);
        Due.due(when + ": release(" + i + ", 1)", x.release(i, 1), hot);
        Due.due(when + ": release(" + i + ", 2)", x.release(i, 2), Long.bitCount(has));
        Due.due(when + ": release(" + i + ", 3)", x.release(i, 3), held);
        Due.due(when + ": has(" + i + ")", x.has(i), has);
    }

    /** "goes through the ticks 0 .. 399". */
    private static void firstAndLastTick() {
        BranchPlay x = withWay("queue 9;");
        int[][] birthSizeMerged = {{0, 1, 1}, {398, 1, 399}, {399, 1, -1}, {379, 20, 399}, {380, 20, -1}};
        for (int i = 0; i < birthSizeMerged.length; i++) {
            x.change(birthSizeMerged[i][0], 1 << i, birthSizeMerged[i][1], -1);
        }
        x.play(0);
        for (int i = 0; i < birthSizeMerged.length; i++) {
            told("first and last tick", x, i, birthSizeMerged[i][0], birthSizeMerged[i][2]);
        }
    }

    /** "RELEASE, at each multiple of every above 0 (up to tick 399)". */
    private static void releasesAtMultiples() {
        for (int every = 2; every <= 100; every++) {
            BranchPlay x = withWay("every " + every + "; ahead 1;");
            int many = 399 / every;
            Due.due("play(0) with every " + every, x.play(0), many);
            for (int i = 0; i < many; i++) {
                release("every " + every, x, i, (i + 1) * every, 0, 0, 0);
            }
            Due.due("one more with every " + every, x.release(many, 0), -9);
        }
    }

    /** "(up to tick 399)": 399 is 7 times 57; 400 would be 5 times 80, and is none. */
    private static void releaseAtTheLastTick() {
        BranchPlay x = withWay("every 57; ahead 1; test 0; pick none; rework 0;");
        x.change(397, 1, 1, -1);
        x.change(398, 1, 1, -1);
        x.play(0);
        release("every 57", x, 6, 399, 0, 1, 0);
        told("every 57", x, 0, 397, 398, 399);
        told("every 57", x, 1, 398, 399, -1);
        x = withWay("every 80; ahead 1; test 0; rework 0;");
        x.change(318, 1, 1, -1);
        x.change(319, 1, 1, -1);
        Due.due("play(0) with every 80", x.play(0), 4);
        told("every 80", x, 0, 318, 319, 320);
        told("every 80", x, 1, 319, 320, -1);
    }

    /** "(for what was in the TRUNK at the cut: in the TRUNK) for test ticks or more .. the others are HELD." */
    private static void testTicksOrMore() {
        for (int test = 1; test <= 50; test++) {
            BranchPlay x = withWay("every 100; ahead 1; pick none; test " + test + ";");
            // Merged so many ticks ahead of the release at 100, and one tick later.
            x.change(99 - test, 1, 1, -1);
            x.change(100 - test, 2, 1, -1);
            x.play(0);
            boolean secondIsOnIt = test >= 2;
            release("test " + test, x, 0, 100, 0, 1, secondIsOnIt ? 1 : 0);
            told("test " + test, x, 0, 99 - test, 100 - test, 100, -1, 0, 0, 0);
            told("test " + test, x, 1, 100 - test, 101 - test, 200, -1, 0, 0, secondIsOnIt ? 1 : 0);
        }
        BranchPlay x = withWay("every 100; ahead 1; pick none; test 0;");
        x.change(98, 1, 1, -1);
        x.play(0);
        told("test 0", x, 0, 98, 99, 100, -1, 0, 0, 0);
    }

    /** "each CHANGE that has been on it .. for test ticks or more": a pick since it was merged. */
    private static void testTicksOfPicks() {
        for (int test = 2; test < 50; test++) {
            BranchPlay x = withWay("every 100; ahead 50; pick all; test " + test + ";");
            x.change(99 - test, 1, 1, -1);
            x.change(100 - test, 2, 1, -1);
            x.play(0);
            release("pick all, test " + test, x, 0, 100, 0, 1, 1);
            told("pick all, test " + test, x, 1, 100 - test, 101 - test, 200, -1, 0, 0, 1);
        }
        for (int test = 0; test <= 1; test++) {
            BranchPlay x = withWay("every 100; ahead 50; pick all; test " + test + ";");
            x.change(98, 1, 1, -1);
            x.play(0);
            told("pick all, test " + test, x, 0, 98, 99, 100, -1, 0, 0, 0);
        }
    }

    /** "and all it hangs on is in the RELEASE too; the others are HELD." */
    private static void allItHangsOn() {
        // One of the three that 3 hangs on is too young, each in its turn; 4 hangs on 3 in turn.
        for (int young = -1; young < 3; young++) {
            BranchPlay x = withWay("every 100; ahead 1; test 10; rework 0; queue 9;");
            for (int c = 0; c < 5; c++) {
                x.change(c == young ? 90 : c, 1, 1, -1);
            }
            x.hang(3, 2);
            x.hang(3, 0);
            x.hang(3, 1);
            x.hang(4, 3);
            x.play(0);
            String when = "young " + young;
            if (young < 0) {
                release(when, x, 0, 100, 0, 31, 0);
            } else {
                // 3 and 4 wait for the young one, so they are as young.
                release(when, x, 0, 100, 0, 7 & ~(1 << young), 3);
                release(when, x, 1, 200, 0, 31, 0);
            }
        }
        // Old enough itself, but what it hangs on was picked too late: only that holds it.
        BranchPlay x = withWay("every 20; ahead 18; test 0; pick none; hot 1; rework 0;");
        x.change(0, 1, 1, 17);
        x.change(0, 1, 1, -1);
        x.change(0, 1, 1, -1);
        x.fix(1, 0);
        x.hang(2, 1);
        x.play(0);
        told("hangs on a fix", x, 2, 0, 38, 60, -1, 0, 0, 0);
    }

    /** "of what is on its BRANCH": of none, if none is; and of none, if all are HELD. */
    private static void emptyRelease() {
        BranchPlay x = withWay("every 10; ahead 9; test 50; pick none;");
        x.change(0, 1, 1, -1);
        x.change(1, 2, 1, -1);
        x.play(0);
        // 0 is merged at the cut, 1 a tick later.
        release("all held", x, 0, 10, 0, 0, 1);
        release("all held", x, 1, 20, 0, 0, 2);
        release("all held", x, 4, 50, 0, 0, 2);
        release("all held", x, 5, 60, 0, 3, 0);
        told("all held", x, 0, 0, 1, 60, -1, 0, 0, 5);
        told("all held", x, 1, 1, 2, 60, -1, 0, 0, 4);
        Due.due("all held: sum(6)", x.sum(6), 9);
    }

    /** "The BRANCH is closed." What is merged at the tick of the release is picked by none. */
    private static void branchIsClosed() {
        BranchPlay x = withWay("every 20; ahead 1; test 1; pick all; queue 9;");
        x.change(18, 1, 1, -1);
        x.change(19, 2, 1, -1);
        x.change(20, 4, 1, -1);
        x.play(0);
        told("closed", x, 0, 18, 19, 20, -1, 0, 0, 0);
        told("closed", x, 1, 19, 20, 40, -1, 0, 0, 0);
        told("closed", x, 2, 20, 21, 40, -1, 0, 0, 0);
    }

    /** "a CHANGE is OUT first at that tick if it wasn't OUT before." */
    private static void outFirstOnce() {
        // The fix is out hot at 34, not out at 40, out again from 60 on.
        BranchPlay x = withWay("every 20; ahead 10; hot 1; test 0; pick none;");
        x.change(0, 1, 1, 12);
        x.change(0, 2, 1, -1);
        x.fix(1, 0);
        x.play(0);
        release("out first", x, 1, 34, 1, 3, 0);
        release("out first", x, 2, 40, 0, 1, 0);
        release("out first", x, 3, 60, 0, 3, 0);
        told("out first", x, 1, 32, 33, 34);
        Due.due("out first: sum(0)", x.sum(0), 20 + 2);
    }

    /** "that was merged hot ticks ago". */
    private static void hotTicksAgo() {
        for (int hot = 1; hot <= 50; hot++) {
            BranchPlay x = withWay("every 100; test 0; hot " + hot + ";");
            x.change(0, 1, 1, 1);
            x.change(0, 2, 1, -1);
            x.fix(1, 0);
            Due.due("play(0) with hot " + hot, x.play(0), 4);
            release("hot " + hot, x, 1, 102 + hot, 1, 3, 0);
            told("hot " + hot, x, 1, 101, 102, 102 + hot);
        }
        BranchPlay x = withWay("every 100; test 0;");
        x.change(0, 1, 1, 1);
        x.change(0, 2, 1, -1);
        x.fix(1, 0);
        Due.due("play(0) without hot", x.play(0), 3);
        told("without hot", x, 1, 101, 102, 200);
    }

    /** "HOT RELEASES" come at tick 399 yet, and at none behind it. */
    private static void hotAtTheLastTick() {
        for (int breaks = 47; breaks <= 49; breaks++) {
            BranchPlay x = withWay("every 100; ahead 1; test 0; hot 50;");
            x.change(250, 1, 1, breaks);
            x.change(0, 2, 1, -1);
            x.fix(1, 0);
            boolean is = breaks <= 48;
            Due.due("play(0) with break " + breaks, x.play(0), is ? 4 : 3);
            told("break " + breaks, x, 1, 300 + breaks, 301 + breaks, is ? 351 + breaks : -1);
            Due.due("release(3, 0) with break " + breaks, x.release(3, 0), is ? 351 + breaks : -9);
        }
    }

    /** "while it isn't": a fix that the release of the same tick has is not let out hot. */
    private static void hotWhileItIsNotOut() {
        for (int hot = 1; hot <= 8; hot++) {
            // Out at 20, met at 32, merged at 33, on the branch that is cut at 35 and let out at 40.
            BranchPlay x = withWay("every 20; ahead 5; test 0; hot " + hot + ";");
            x.change(0, 1, 1, 12);
            x.change(0, 2, 1, -1);
            x.fix(1, 0);
            Due.due("play(0) with hot " + hot, x.play(0), hot < 7 ? 20 : 19);
            told("hot " + hot, x, 1, 32, 33, hot < 7 ? 33 + hot : 40);
        }
    }

    /** "whose CHANGE is OUT NOW": not one that was out hot, and is not in the latest release. */
    private static void hotWhileItsChangeIsOut() {
        // 1, merged at 33, is out hot behind so many ticks; 2 is its fix. The release at 40 has 0 alone,
        // so then 1 is not met (hot 6), and 2 not out hot (hot 3 to 5).
        int[][] oneAndTwo = {
            {34, 35, 36, 37}, {35, 36, 37, 39}, {36, 37, 38, 60}, {37, 38, 39, 60},
            {38, 39, 40, 60}, {39, -1, -1, -1}, {40, 41, 42, 49}, {41, 42, 43, 51}};
        for (int hot = 1; hot <= 8; hot++) {
            BranchPlay x = withWay("every 20; ahead 10; test 0; pick none; hot " + hot + ";");
            x.change(0, 1, 1, 12);
            x.change(0, 2, 1, 1);
            x.change(0, 4, 1, -1);
            x.fix(1, 0);
            x.fix(2, 1);
            x.play(0);
            int[] due = oneAndTwo[hot - 1];
            told("hot " + hot, x, 1, 32, 33, due[0], due[1]);
            told("hot " + hot, x, 2, due[1], due[2], due[3]);
        }
    }

    /** "of each FIX, by number": each a release of its own, with those ahead of it. */
    private static void hotByNumber() {
        BranchPlay x = withWay("every 100; test 0; rework 0; queue 9; hot 3;");
        for (int c = 0; c < 3; c++) {
            x.change(0, 1, 1, 5);
        }
        for (int c = 3; c < 6; c++) {
            x.change(0, 1, 2, -1);
            x.fix(c, 5 - c);
        }
        Due.due("play(0) with three hot", x.play(0), 6);
        release("three hot", x, 0, 100, 0, 7, 0);
        release("three hot", x, 1, 110, 1, 15, 0);
        release("three hot", x, 2, 110, 1, 31, 0);
        release("three hot", x, 3, 110, 1, 63, 0);
        release("three hot", x, 4, 200, 0, 63, 0);
    }

    /** "and the FIX (whatever it hangs on)", which the next release holds it for. */
    private static void hotWhateverItHangsOn() {
        BranchPlay x = withWay("every 50; ahead 1; hot 1; test 40; rework 0;");
        x.change(0, 1, 1, 5);
        x.change(60, 1, 20, -1);
        x.change(0, 1, 1, -1);
        x.fix(2, 0);
        x.hang(2, 1);
        x.play(0);
        release("hangs on what is not out", x, 1, 82, 1, 5, 0);
        release("hangs on what is not out", x, 2, 100, 0, 1, 2);
    }

    /** "was OUT first so many ticks ago as its BREAK says", "its FIX is born then." */
    private static void breakTicksAgo() {
        for (int breaks = 1; breaks <= 100; breaks++) {
            BranchPlay x = withWay("every 100; test 0;");
            x.change(0, 1, 1, breaks);
            x.change(0, 2, 3, -1);
            x.fix(1, 0);
            x.play(0);
            int met = 100 + breaks;
            told("break " + breaks, x, 0, 0, 1, 100, met, 0, 0, 0);
            told("break " + breaks, x, 1, met, met + 3, met + 3 < 200 ? 200 : 300);
            Due.due("break " + breaks + ": sum(3)", x.sum(3), 1);
        }
        BranchPlay x = withWay("every 100; test 0;");
        x.change(0, 1, 1, -1);
        x.play(0);
        told("no break", x, 0, 0, 1, 100, -1, 0, 0, 0);
        Due.due("no break: sum(3)", x.sum(3), 0);
    }

    /** "MET" at tick 399 yet, and its fix is born; at none behind it. */
    private static void breakAtTheLastTick() {
        for (int breaks = 98; breaks <= 100; breaks++) {
            BranchPlay x = withWay("every 100; test 0;");
            x.change(201, 1, 1, breaks);
            x.change(0, 2, 1, -1);
            x.fix(1, 0);
            x.play(0);
            int met = breaks <= 99 ? 300 + breaks : -1;
            told("break " + breaks, x, 0, 201, 202, 300, met);
            told("break " + breaks, x, 1, met, breaks == 98 ? 399 : -1, -1);
            Due.due("break " + breaks + ": sum(2)", x.sum(2), breaks <= 99 ? 1 : 0);
            Due.due("break " + breaks + ": sum(3)", x.sum(3), breaks <= 99 ? 1 : 0);
        }
    }

    /** "that is OUT NOW": at that very tick, not ahead of it and not later. */
    private static void breakOutNow() {
        // 1 is out hot at 34, not from 40 to 59, and again from 60 on.
        for (int breaks = 1; breaks <= 40; breaks++) {
            BranchPlay x = withWay("every 20; ahead 10; hot 1; test 0; pick none;");
            x.change(0, 1, 1, 12);
            x.change(0, 2, 1, breaks);
            x.fix(1, 0);
            x.play(0);
            int due = 34 + breaks;
            told("break " + breaks, x, 1, 32, 33, 34, due < 40 || due >= 60 ? due : -1);
        }
    }

    /** "is READY size ticks later". */
    private static void readySizeTicksLater() {
        for (int size = 1; size <= 20; size++) {
            BranchPlay x = withWay("");
            x.change(7, 1, size, -1);
            x.play(0);
            told("size " + size, x, 0, 7, 7 + size);
            Due.due("size " + size + ": sum(5)", x.sum(5), size);
        }
    }

    /** "its BASE is all that is merged so far": ahead of the merges of the tick of its birth. */
    private static void baseAtBirth() {
        for (int birth = 3; birth <= 7; birth++) {
            BranchPlay x = withWay("rework 4;");
            x.change(0, 1, 5, -1);
            x.change(birth, 1, 6, -1);
            x.play(0);
            boolean quarrels = birth <= 5;
            told("born at " + birth, x, 1, birth, birth + (quarrels ? 10 : 6));
            Due.due("born at " + birth + ": told(1, 4)", x.told(1, 4), quarrels ? 1 : 0);
        }
    }

    /** "that hang on nothing that isn't merged (by then, one by one)". */
    private static void hangsOnNothingUnmerged() {
        // Gone to behind what it hangs on at the same tick, or ahead of it.
        BranchPlay x = withWay("rework 0; queue 9;");
        x.change(0, 1, 4, -1);
        x.change(0, 1, 4, -1);
        x.change(0, 1, 3, -1);
        x.change(0, 1, 4, -1);
        x.hang(1, 0);
        x.hang(2, 0);
        x.hang(3, 0);
        x.hang(3, 1);
        x.hang(3, 2);
        x.play(0);
        told("one by one", x, 0, 0, 4);
        told("one by one", x, 1, 0, 4);
        told("one by one", x, 2, 0, 5);
        told("one by one", x, 3, 0, 5);
        // What hangs on a fix that is never born is never merged, and has no quarrel.
        x = withWay("rework 5;");
        x.change(399, 1, 1, 1);
        x.change(0, 1, 1, -1);
        x.change(0, 2, 1, -1);
        x.change(0, 2, 1, -1);
        x.fix(1, 0);
        x.hang(2, 1);
        x.play(0);
        told("never merged", x, 2, 0, -1, -1, -1, 0, 0, 0);
        told("never merged", x, 3, 0, 1);
        // And it doesn't count to queue.
        x = withWay("rework 0; queue 1;");
        x.change(5, 1, 1, -1);
        x.change(0, 1, 1, -1);
        x.change(0, 1, 2, -1);
        x.hang(1, 0);
        x.play(0);
        told("not in the queue", x, 2, 0, 2);
        told("not in the queue", x, 1, 0, 7);
    }

    /** "in the freeze ticks ahead of a cut (.. the tick of the cut is not one), only FIXES". */
    private static void freezeTicks() {
        for (int freeze = 0; freeze <= 50; freeze++) {
            BranchPlay x = withWay("every 100; ahead 10; queue 9; freeze " + freeze + ";");
            // Ready a tick ahead of the freeze, at its first and its last tick, at the cut, behind it.
            int[] ready = {89 - freeze, 90 - freeze, 89, 90, 91};
            for (int i = 0; i < ready.length; i++) {
                x.change(ready[i] - 1, 1 << i, 1, -1);
            }
            x.play(0);
            String when = "freeze " + freeze;
            told(when, x, 0, ready[0] - 1, 89 - freeze, 100);
            told(when, x, 1, ready[1] - 1, 90, 100);
            told(when, x, 2, ready[2] - 1, freeze == 0 ? 89 : 90, 100);
            told(when, x, 3, ready[3] - 1, 90, 100);
            told(when, x, 4, ready[4] - 1, 91, 200);
        }
    }

    /** "only FIXES": these are merged in the freeze ticks, and the others have no quarrel then. */
    private static void freezeLetsFixesIn() {
        // The second cut is at 35, so 25 .. 34 are frozen; the break is met at 20 + its number.
        for (int breaks = 3; breaks <= 15; breaks++) {
            BranchPlay x = withWay("every 20; ahead 5; freeze 10; test 0; rework 3;");
            x.change(0, 1, 4, breaks);
            x.change(0, 2, 1, -1);
            x.fix(1, 0);
            x.change(23, 2, 2, -1);
            x.play(0);
            int met = 20 + breaks;
            String when = "break " + breaks;
            // The first freeze is from 5 on, and 0 is merged at 4.
            told(when, x, 0, 0, 4, 20, met);
            // 2 is ready at 25 and gone to at 35: who of the two comes later has the quarrel.
            boolean fixIsFirst = met + 1 <= 35;
            told(when, x, 1, met, fixIsFirst ? met + 1 : met + 4, 40, -1, fixIsFirst ? 0 : 1);
            Due.due(when + ": told(2, 1)", x.told(2, 1), fixIsFirst ? 38 : 35);
            Due.due(when + ": told(2, 4)", x.told(2, 4), fixIsFirst ? 1 : 0);
        }
    }

    /** "the tick of the cut is not one", though the next cut is fewer than freeze ticks away. */
    private static void freezeLongerThanEvery() {
        for (int freeze = 18; freeze <= 22; freeze++) {
            BranchPlay x = withWay("every 20; ahead 5; queue 9; freeze " + freeze + ";");
            x.change(14, 1, 1, -1);
            x.change(15, 2, 1, -1);
            x.change(16, 4, 1, -1);
            x.play(0);
            String when = "freeze " + freeze;
            told(when, x, 0, 14, 15);
            // From 19 on every tick between the cuts at 15 and 35 is frozen.
            told(when, x, 1, 15, freeze <= 18 ? 16 : 35);
            told(when, x, 2, 16, 35);
        }
    }

    /** "ahead of a cut": a release behind tick 399 has no cut, so nothing is frozen ahead of it. */
    private static void freezeAheadOfTheLastCut() {
        BranchPlay x = withWay("every 20; ahead 5; freeze 50; queue 9;");
        x.change(373, 1, 1, -1);
        x.change(374, 2, 1, -1);
        x.change(375, 4, 1, -1);
        x.change(389, 8, 1, -1);
        x.play(0);
        told("the last cut", x, 0, 373, 375, 380);
        told("the last cut", x, 1, 374, 375, 380);
        told("the last cut", x, 2, 375, 376, -1);
        told("the last cut", x, 3, 389, 390, -1);
        // A release at 399 has its cut, and what is frozen ahead of that.
        BranchPlay y = withWay("every 57; ahead 1; freeze 5; queue 9;");
        y.change(391, 1, 1, -1);
        y.change(392, 2, 1, -1);
        y.change(396, 4, 1, -1);
        y.play(0);
        told("the cut at 398", y, 0, 391, 392, 399);
        told("the cut at 398", y, 1, 392, 398, -1, -1, 0, 0, 1);
        told("the cut at 398", y, 2, 396, 398, -1, -1, 0, 0, 1);
    }

    /** "until queue of them are merged". */
    private static void queueOfEach() {
        for (int queue = 1; queue <= 9; queue++) {
            BranchPlay x = withWay("queue " + queue + ";");
            for (int c = 0; c < 30; c++) {
                x.change(0, 1 << c, 1, -1);
            }
            x.play(0);
            for (int c = 0; c < 30; c++) {
                told("queue " + queue, x, c, 0, 1 + c / queue);
            }
        }
    }

    /** "by FIXES first, then the tick at which they are READY, then number". */
    private static void orderOfMerges() {
        BranchPlay x = withWay("every 20; ahead 10; test 0; rework 0; queue 1;");
        x.change(0, 1, 1, 5);
        x.change(0, 1, 1, 4);
        x.change(20, 1, 5, -1);
        x.change(20, 1, 4, -1);
        x.change(20, 1, 4, -1);
        x.change(0, 1, 1, -1);
        x.change(0, 1, 2, -1);
        x.fix(5, 0);
        x.fix(6, 1);
        x.play(0);
        // 0 is met at 25, 1 at 24: both fixes are ready at 26. 3 goes at 24, 4 at 25.
        told("order", x, 3, 20, 24);
        told("order", x, 4, 20, 25);
        told("order", x, 5, 25, 26);
        told("order", x, 6, 24, 27);
        told("order", x, 2, 20, 28);
        // Ready a tick earlier is ahead of a lesser number.
        BranchPlay y = withWay("rework 0; queue 1;");
        y.change(0, 1, 3, -1);
        y.change(0, 1, 2, -1);
        y.change(0, 1, 2, -1);
        y.change(0, 1, 2, -1);
        y.play(0);
        told("order", y, 1, 0, 2);
        told("order", y, 2, 0, 3);
        told("order", y, 3, 0, 4);
        told("order", y, 0, 0, 5);
    }

    /** "merged behind its BASE (at this tick, too)". */
    private static void quarrelAtThisTickToo() {
        for (int size = 3; size <= 6; size++) {
            BranchPlay x = withWay("rework 2;");
            x.change(0, 1, 4, -1);
            x.change(0, 1, size, -1);
            x.play(0);
            String when = "size " + size;
            // Who is gone to first is merged, the other quarrels.
            told(when, x, 0, 0, size == 3 ? 6 : 4, 20, -1, size == 3 ? 1 : 0);
            told(when, x, 1, 0, size == 3 ? 3 : size + 2, 20, -1, size == 3 ? 0 : 1);
        }
    }

    /** "if rework is above 0", "READY rework ticks later for each such REGION" of bits 0 .. 29. */
    private static void reworkForEachRegion() {
        for (int rework = 0; rework <= 9; rework++) {
            for (int many = 1; many <= 30; many++) {
                // Some from below, the rest from above: both ends of the bits are among them.
                int shared = ALL_REGIONS >>> 30 - many / 2 | ALL_REGIONS << 30 - (many + 1) / 2 & ALL_REGIONS;
                BranchPlay x = withWay("queue 9; rework " + rework + ";");
                x.change(0, shared, 1, -1);
                x.change(0, ALL_REGIONS, 1, -1);
                x.play(0);
                String when = "rework " + rework + " of " + many;
                int ticks = rework * Integer.bitCount(shared);
                told(when, x, 0, 0, 1);
                Due.due(when + ": told(1, 1)", x.told(1, 1), 1 + ticks);
                Due.due(when + ": told(1, 4)", x.told(1, 4), rework == 0 ? 0 : 1);
                Due.due(when + ": told(1, 5)", x.told(1, 5), ticks);
                Due.due(when + ": sum(5)", x.sum(5), 2 + ticks);
            }
        }
        // Of all that were merged behind its base, each region once.
        BranchPlay more = withWay("queue 9; rework 2;");
        more.change(0, 3, 1, -1);
        more.change(0, 12, 1, -1);
        more.change(0, 16, 1, -1);
        more.change(3, 3, 1, -1);
        more.change(0, 7 | 32, 5, -1);
        more.play(0);
        told("all behind its base", more, 3, 3, 4);
        told("all behind its base", more, 4, 0, 11, 20, -1, 1, 6);
        // None in common is no quarrel.
        BranchPlay x = withWay("queue 9; rework 9;");
        x.change(0, 0x15555555, 1, -1);
        x.change(0, 0x2aaaaaaa, 1, -1);
        x.play(0);
        told("none in common", x, 1, 0, 1, 20, -1, 0, 0);
    }

    /** "that doesn't count to queue." */
    private static void quarrelDoesNotCount() {
        BranchPlay x = withWay("queue 1; rework 9;");
        x.change(0, 1, 1, -1);
        for (int c = 1; c < 6; c++) {
            x.change(0, 1, 2, -1);
        }
        x.change(0, 2, 2, -1);
        x.play(0);
        told("behind five quarrels", x, 6, 0, 2, 20, -1, 0);
        Due.due("sum(4)", x.sum(4) >= 5 ? 1 : 0, 1);
    }

    /** "its BASE is all that is merged so far": what it quarrelled with once is in its base. */
    private static void newBaseBehindAQuarrel() {
        BranchPlay x = withWay("rework 1; test 0;");
        x.change(0, 1, 2, -1);
        x.change(0, 1, 3, -1);
        x.play(0);
        told("once", x, 1, 0, 4, 20, -1, 1, 1);
        // Another that is merged at the tick of the quarrel, behind it, is not.
        x = withWay("rework 1; test 0;");
        x.change(0, 1, 2, -1);
        x.change(0, 3, 3, -1);
        x.change(0, 2, 3, -1);
        x.play(0);
        told("twice", x, 2, 0, 3);
        told("twice", x, 1, 0, 5, 20, -1, 2, 2);
    }

    /** "CUT, ahead ticks ahead of each RELEASE: its BRANCH has all that is in the TRUNK." */
    private static void cutTicks() {
        for (int ahead = 1; ahead <= 50; ahead++) {
            BranchPlay x = withWay("every 60; test 0; pick none; queue 9; ahead " + ahead + ";");
            x.change(59 - ahead, 1, 1, -1);
            x.change(60 - ahead, 2, 1, -1);
            x.change(119 - ahead, 4, 1, -1);
            x.change(120 - ahead, 8, 1, -1);
            x.play(0);
            String when = "ahead " + ahead;
            told(when, x, 0, 59 - ahead, 60 - ahead, 60);
            told(when, x, 1, 60 - ahead, 61 - ahead, 120);
            told(when, x, 2, 119 - ahead, 120 - ahead, 120);
            told(when, x, 3, 120 - ahead, 121 - ahead, 180);
        }
        // every - 1: the cut is at the tick behind the release.
        BranchPlay x = withWay("every 2; ahead 1; test 0; pick none;");
        x.change(0, 1, 1, -1);
        x.change(1, 2, 1, -1);
        x.play(0);
        told("every 2", x, 0, 0, 1, 2);
        told("every 2", x, 1, 1, 2, 4);
    }

    /** "while a BRANCH is open (from the tick behind its cut on) is on it, too, since that tick". */
    private static void pickFromTheTickBehindTheCut() {
        for (int merged = 28; merged <= 41; merged++) {
            for (int pick = 0; pick < 3; pick++) {
                String word = pick == 0 ? "none" : pick == 1 ? "fixes" : "all";
                BranchPlay x = withWay("every 20; ahead 10; test 0; queue 9; pick " + word + ";");
                x.change(0, 1, 1, merged - 21);
                x.change(0, 2, 1, -1);
                x.fix(1, 0);
                x.change(merged - 1, 4, 1, -1);
                x.play(0);
                String when = "pick " + word + ", merged at " + merged;
                boolean open = merged > 30 && merged < 40;
                int without = merged <= 30 ? 40 : 60;
                told(when, x, 1, merged - 1, merged, open && pick >= 1 ? 40 : without);
                told(when, x, 2, merged - 1, merged, open && pick == 2 ? 40 : without);
            }
        }
    }
}
