/** The edges that the document names for ways held against one another, a sentence each: promises 16 to 20. */
public final class HeldEdgesTest {
    private static final int MIN = Integer.MIN_VALUE;
    private static final int MAX = Integer.MAX_VALUE;
    private static final int[] NO_WAYS = {-1, 4, 5, MIN, MAX};
    private static final int[] LEAST = {2, 1, 0, 1, 0, 0};
    private static final int[] MOST = {100, 50, 50, 9, 50, 9};

    public static void main(String[] args) {
        partsAtTheFirstTick();
        partsAtTheLastTick();
        partsByTrunkOrByWhatIsOut();
        partsAtNoTick();
        partsOfNoWay();
        pricesFromNoneToThousand();
        refusedPricesLeaveThem();
        pricesAtFirst();
        costsOfNoWay();
        costsOfNothingAndOfMuch();
        heldWaysLeaveThePlay();
        bestOfNoWayAndNoRule();
        bestWithinBounds();
        bestOfThirty();
        bestGoesThroughAll();
        bestOfAlikeTheLeast();
        bestLeavesOutTooFarAhead();
        bestOfNone();
        refusedBestLeavesAll();
        counts();
        countOfNone();
        lastCall();
        Due.finish();
    }

    private static BranchPlay withWays(String... texts) {
        BranchPlay x = new BranchPlay();
        for (int w = 0; w < texts.length; w++) {
            Due.way(x, w, texts[w]);
            Due.due("fault(0) of <" + texts[w] + ">", x.fault(0), 0);
        }
        return x;
    }

    private static BranchPlay some() {
        BranchPlay x = withWays("test 0;", "every 30; hot 2;", "queue 1; rework 3;", "pick none; freeze 9;");
        x.change(0, 1, 1, 5);
        x.change(0, 2, 2, -1);
        x.change(9, 3, 3, 20);
        x.change(9, 3, 3, -1);
        x.change(395, 3, 9, -1);
        x.fix(1, 0);
        x.hang(3, 0);
        return x;
    }

    private static void bothWays(String when, BranchPlay x, int due) {
        Due.due(when + ": parts(0, 1)", x.parts(0, 1), due);
        Due.due(when + ": parts(1, 0)", x.parts(1, 0), due);
    }

    /** "The first tick at whose end two WAYS .. have unlike TRUNKS": 1 is the first at which one can be in. */
    private static void partsAtTheFirstTick() {
        BranchPlay x = withWays("queue 1;", "queue 2;");
        x.change(0, 1, 1, -1);
        x.change(0, 2, 1, -1);
        bothWays("the first tick", x, 1);
    }

    /** The ticks go to 399: at its end they may differ first, and at no later one. */
    private static void partsAtTheLastTick() {
        for (int birth = 396; birth <= 399; birth++) {
            BranchPlay x = withWays("queue 1;", "queue 2;");
            x.change(birth, 1, 1, -1);
            x.change(birth, 2, 1, -1);
            bothWays("trunks, born at " + birth, x, birth < 399 ? birth + 1 : -1);
            BranchPlay y = withWays("every 57; ahead 1; test 0; pick none;", "every 100; ahead 1; test 0; pick none;");
            y.change(birth, 1, 1, -1);
            bothWays("what is out, born at " + birth, y, birth < 398 ? 399 : -1);
        }
    }

    /** "unlike TRUNKS (what is in), or unlike CHANGES OUT NOW". */
    private static void partsByTrunkOrByWhatIsOut() {
        // Alike in number, not in what is in.
        BranchPlay x = withWays("queue 1; freeze 16;", "queue 1;");
        x.change(0, 1, 1, -1);
        bothWays("trunks", x, 1);
        BranchPlay y = withWays("rework 0; queue 9;", "rework 1; queue 9;");
        y.change(0, 3, 1, -1);
        y.change(0, 1, 1, -1);
        y.change(0, 2, 1, -1);
        bothWays("trunks by a quarrel", y, 1);
        // The trunks are alike throughout.
        BranchPlay z = withWays("every 20;", "every 30;");
        z.change(0, 1, 1, -1);
        bothWays("what is out", z, 20);
        // Out at both, but a hot release is undone by the next: only what is out now counts.
        BranchPlay u = withWays("every 20; ahead 10; hot 1; test 0; pick none;",
            "every 20; ahead 10; hot 1; test 0; pick all;");
        u.change(0, 1, 1, 12);
        u.change(0, 2, 1, -1);
        u.fix(1, 0);
        bothWays("out now", u, 40);
    }

    /** "NONE: none". */
    private static void partsAtNoTick() {
        BranchPlay x = some();
        for (int w = 0; w < 4; w++) {
            Due.due("parts(" + w + ", " + w + ")", x.parts(w, w), -1);
        }
        // Unlike rules, but nothing to tell them apart.
        BranchPlay none = withWays("every 2; ahead 1;", "every 99; hot 1;");
        bothWays("no changes", none, -1);
        BranchPlay late = withWays("every 20;", "every 20; queue 1; freeze 9; rework 9; test 5;");
        late.change(390, 1, 1, -1);
        bothWays("a late change", late, -1);
    }

    /** parts(): "RANGE. (The latest play() stays.)" */
    private static void partsOfNoWay() {
        BranchPlay x = some();
        x.play(1);
        String ahead = Seen.of(x);
        for (int no : NO_WAYS) {
            for (int w = 0; w < 4; w++) {
                Due.due("parts(" + no + ", " + w + ")", x.parts(no, w), -2);
                Due.due("parts(" + w + ", " + no + ")", x.parts(w, no), -2);
            }
            Due.due("parts(" + no + ", " + no + ")", x.parts(no, no), -2);
        }
        Seen.same("parts() of no way", ahead, x);
    }

    /** "so much (0 .. 1000 each)": "1; RANGE." */
    private static void pricesFromNoneToThousand() {
        for (int which = 0; which < 4; which++) {
            for (int price : new int[] {0, 1, 999, 1000, -1, -2, 1001, 1002, MIN, MAX}) {
                BranchPlay x = some();
                int[] p = {0, 0, 0, 0};
                p[which] = price;
                String call = "prices(" + p[0] + ", " + p[1] + ", " + p[2] + ", " + p[3] + ")";
                boolean is = price >= 0 && price <= 1000;
                Due.due(call, x.prices(p[0], p[1], p[2], p[3]), is ? 1 : -2);
                x.play(0);
                int[] sums = {x.sum(0), x.sum(3), x.sum(5), x.sum(2)};
                if (is) {
                    Due.due("costs(0) behind " + call, x.costs(0), price * sums[which]);
                } else {
                    Due.due("costs(0) behind " + call, x.costs(0),
                        sums[0] + 100 * sums[1] + 2 * sums[2] + 50 * sums[3]);
                }
                Due.due("there is something of it", sums[which] > 0 ? 1 : 0, 1);
            }
        }
        BranchPlay x = some();
        Due.due("prices(1000, 1000, 1000, 1000)", x.prices(1000, 1000, 1000, 1000), 1);
        Due.due("prices(0, 0, 0, 0)", x.prices(0, 0, 0, 0), 1);
        Due.due("costs(0) at no price", x.costs(0), 0);
    }

    /** prices() "RANGE": the prices are those that were, each of them. */
    private static void refusedPricesLeaveThem() {
        BranchPlay x = some();
        x.prices(7, 11, 13, 17);
        x.play(2);
        String ahead = Seen.of(x);
        int[][] wrong = {{-1, 1, 1, 1}, {1, -1, 1, 1}, {1, 1, -1, 1}, {1, 1, 1, -1},
            {1001, 1, 1, 1}, {1, 1001, 1, 1}, {1, 1, 1001, 1}, {1, 1, 1, 1001}};
        for (int[] p : wrong) {
            Due.due("prices(" + p[0] + ", " + p[1] + ", " + p[2] + ", " + p[3] + ")",
                x.prices(p[0], p[1], p[2], p[3]), -2);
            Seen.same("prices(" + p[0] + ", " + p[1] + ", " + p[2] + ", " + p[3] + ")", ahead, x);
        }
        int[] sums = {x.sum(0), x.sum(3), x.sum(5), x.sum(2)};
        Due.due("costs(2)", x.costs(2), 7 * sums[0] + 11 * sums[1] + 13 * sums[2] + 17 * sums[3]);
    }

    /** "(1, 100, 2, 50 at first.)" */
    private static void pricesAtFirst() {
        BranchPlay x = withWays("every 100; test 0;");
        Due.due("costs(0) of nothing", x.costs(0), 0);
        x.change(0, 1, 3, -1);
        Due.due("costs(0) of a wait and hours", x.costs(0), 100 + 2 * 3);
        x.change(399, 1, 4, -1);
        Due.due("costs(0) of one never out, too", x.costs(0), 106 + 50 + 2 * 4);
        x.change(0, 2, 1, 1);
        Due.due("costs(0) of one met, too", x.costs(0), 164 + 100 + 100 + 2);
    }

    /** costs(): "RANGE. (The latest play() stays.)" */
    private static void costsOfNoWay() {
        BranchPlay x = some();
        x.play(3);
        String ahead = Seen.of(x);
        for (int no : NO_WAYS) {
            Due.due("costs(" + no + ")", x.costs(no), -2);
        }
        Seen.same("costs() of no way", ahead, x);
        // Without a play() it costs the same, and is no play().
        BranchPlay y = some();
        int[] due = new int[4];
        for (int w = 0; w < 4; w++) {
            due[w] = y.costs(w);
        }
        Due.due("count(2) behind costs()", y.count(2), -1);
        for (int w = 0; w < 4; w++) {
            y.play(3 - w);
            Due.due("costs(" + w + ") behind play(" + (3 - w) + ")", y.costs(w), due[w]);
        }
    }

    /** "What WAY w costs": nothing without changes; and the dearest is no wrap-around. */
    private static void costsOfNothingAndOfMuch() {
        BranchPlay none = new BranchPlay();
        none.prices(1000, 1000, 1000, 1000);
        Due.due("costs(0) of nothing", none.costs(0), 0);
        for (int rework = 0; rework <= 9; rework += 3) {
            BranchPlay x = withWays("every 57; ahead 1; test 0; queue 1; rework " + rework + ";");
            for (int c = 0; c < 60; c++) {
                x.change(0, (1 << 30) - 1, 20, 1);
            }
            x.prices(1000, 1000, 1000, 1000);
            x.play(0);
            long due = 1000L * x.sum(0) + 1000L * x.sum(3) + 1000L * x.sum(5) + 1000L * x.sum(2);
            Due.due("costs(0) with rework " + rework, x.costs(0), due);
            Due.due("it is much", x.costs(0) > 4000000 ? 1 : 0, 1);
        }
    }

    /** "(The latest play() stays.)", "(WAY and latest play() stay.)" */
    private static void heldWaysLeaveThePlay() {
        for (int w = 0; w < 4; w++) {
            BranchPlay x = some();
            x.play(w);
            String ahead = Seen.of(x);
            for (int v = 0; v < 4; v++) {
                x.parts(w, v);
                x.parts(v, 3 - v);
                x.costs(v);
                for (int rule = 0; rule < 6; rule++) {
                    x.best(v, rule, LEAST[rule], Math.min(MOST[rule], LEAST[rule] + 29));
                }
                Seen.same("parts(), costs() and best() of " + v, ahead, x);
            }
        }
    }

    /** best(): "WAY w with rule 0 .. 5 (as rule() numbers them)", else RANGE. */
    private static void bestOfNoWayAndNoRule() {
        BranchPlay x = some();
        for (int no : NO_WAYS) {
            for (int rule = -1; rule < 8; rule++) {
                Due.due("best(" + no + ", " + rule + ", 5, 5)", x.best(no, rule, 5, 5), -2);
            }
        }
        for (int w = 0; w < 4; w++) {
            for (int rule = 0; rule < 6; rule++) {
                Due.due("best(" + w + ", " + rule + ", 5, 5)", x.best(w, rule, 5, 5), 5);
            }
            for (int no : new int[] {-1, 6, 7, 8, MIN, MAX}) {
                Due.due("best(" + w + ", " + no + ", 5, 5)", x.best(w, no, 5, 5), -2);
                Due.due("best(" + w + ", " + no + ", 1, 2)", x.best(w, no, 1, 2), -2);
            }
        }
    }

    /** "at each number from low to high (all within its bounds ..)". */
    private static void bestWithinBounds() {
        for (int rule = 0; rule < 6; rule++) {
            // ahead is below every with the least every and with the greatest ahead.
            BranchPlay x = withWays("every 100; ahead 1;");
            x.change(0, 1, 1, -1);
            String of = "best(0, " + rule + ", ";
            for (int n : new int[] {LEAST[rule], LEAST[rule] + 1, MOST[rule] - 1, MOST[rule]}) {
                Due.due(of + n + ", " + n + ")", x.best(0, rule, n, n), n);
            }
            int below = LEAST[rule] - 1;
            int above = MOST[rule] + 1;
            Due.due(of + "one below, the same)", x.best(0, rule, below, below), -2);
            Due.due(of + "one below, the least)", x.best(0, rule, below, LEAST[rule]), -2);
            Due.due(of + "one below, within)", x.best(0, rule, below, LEAST[rule] + 5), -2);
            Due.due(of + "the most, one above)", x.best(0, rule, MOST[rule], above), -2);
            Due.due(of + "within, one above)", x.best(0, rule, MOST[rule] - 5, above), -2);
            Due.due(of + "one above, the same)", x.best(0, rule, above, above), -2);
            Due.due(of + "min, min)", x.best(0, rule, MIN, MIN), -2);
            Due.due(of + "max, max)", x.best(0, rule, MAX, MAX), -2);
            // So many that their number wraps around.
            Due.due(of + "min, max)", x.best(0, rule, MIN, MAX), -2);
            Due.due(of + "min, the most)", x.best(0, rule, MIN, MOST[rule]), -2);
            Due.due(of + "the least, max)", x.best(0, rule, LEAST[rule], MAX), -2);
            Due.due(of + "-1, max)", x.best(0, rule, -1, MAX), -2);
        }
    }

    /** "at most 30 of them". */
    private static void bestOfThirty() {
        for (int rule = 0; rule < 6; rule++) {
            BranchPlay x = withWays("every 100; ahead 1;");
            for (int low = LEAST[rule]; low + 29 <= MOST[rule]; low++) {
                String of = "best(0, " + rule + ", " + low + ", ";
                // With no changes all cost the same, so the least is the best.
                Due.due(of + (low + 29) + "), thirty", x.best(0, rule, low, low + 29), low);
                Due.due(of + (low + 30) + "), thirty-one", x.best(0, rule, low, low + 30), -2);
                Due.due(of + (low + 31) + "), thirty-two", x.best(0, rule, low, low + 31), -2);
            }
        }
        // Where there are fewer within bounds, all of them.
        BranchPlay x = new BranchPlay();
        Due.due("best(0, 3, 1, 9)", x.best(0, 3, 1, 9), 1);
        Due.due("best(0, 5, 0, 9)", x.best(0, 5, 0, 9), 0);
    }

    /** "at each number from low to high": the first and the last of them, too. */
    private static void bestGoesThroughAll() {
        // Its wait is least where a release comes a tick behind its merge: at a prime, so no lesser every does.
        for (int prime : new int[] {3, 5, 7, 11, 13, 17, 19, 23, 29, 31}) {
            BranchPlay x = withWays("every 100; ahead 1; test 0; pick none;");
            x.change(prime - 2, 1, 1, -1);
            Due.due("best every, of thirty", x.best(0, 0, 2, 31), prime);
            Due.due("best every, the first of thirty", x.best(0, 0, prime, prime + 29), prime);
            Due.due("best every, the last", x.best(0, 0, 2, prime), prime);
            Due.due("best every, the one", x.best(0, 0, prime, prime), prime);
        }
        BranchPlay queue = withWays("every 10; ahead 1; test 0; rework 0;");
        for (int c = 0; c < 9; c++) {
            queue.change(0, 1, 9, -1);
        }
        Due.due("best queue, the last", queue.best(0, 3, 1, 9), 9);
        Due.due("best queue of eight", queue.best(0, 3, 1, 8), 8);
        // Only a break that is met costs here, and with the last number of each rule one less is out at 320.
        bestIsTheLast(1, 50, new int[][] {{270, 1}});
        bestIsTheLast(2, 50, new int[][] {{270, 1}});
        bestIsTheLast(4, 50, new int[][] {{268, 1}, {269, 2}});
        bestIsTheLast(5, 9, new int[][] {{309, 1}, {309, 1}});
    }

    private static void bestIsTheLast(int rule, int last, int[][] birthsAndRegions) {
        BranchPlay x = withWays("every 80; ahead 1; test 0; pick none; queue 1;");
        for (int[] c : birthsAndRegions) {
            x.change(c[0], c[1], 1, 1);
        }
        x.prices(0, 1, 0, 0);
        int low = Math.max(LEAST[rule], last - 29);
        Due.due("best of rule " + rule + ", the last", x.best(0, rule, low, last), last);
        Due.due("best of rule " + rule + ", the last alone", x.best(0, rule, last, last), last);
        Due.due("best of rule " + rule + ", without it", x.best(0, rule, low, last - 1), low);
    }

    /** "the one that costs least, of these the least". */
    private static void bestOfAlikeTheLeast() {
        BranchPlay x = some();
        x.prices(0, 0, 0, 0);
        for (int rule = 0; rule < 6; rule++) {
            for (int low = Math.max(5, LEAST[rule]); low <= 9; low++) {
                Due.due("best(3, " + rule + ", " + low + ", 9) for nothing", x.best(3, rule, low, 9), low);
            }
        }
    }

    /** "those with which ahead would not be below every are left out". */
    private static void bestLeavesOutTooFarAhead() {
        for (int other = 2; other <= 28; other++) {
            BranchPlay x = withWays("every 30; ahead " + other + ";", "every " + other + "; ahead 1;");
            x.prices(0, 0, 0, 0);
            Due.due("best every with ahead " + other, x.best(0, 0, 2, 30), other + 1);
            Due.due("best every up to ahead", x.best(0, 0, 2, other), -1);
            Due.due("best every up to one more", x.best(0, 0, 2, other + 1), other + 1);
            Due.due("best ahead up to every " + other, x.best(1, 1, other, other + 20), -1);
            Due.due("best ahead from one less on", x.best(1, 1, other - 1, other + 20), other - 1);
        }
        // They are left out though they would cost less.
        BranchPlay x = withWays("every 20; ahead 10; test 0; pick none;");
        x.change(0, 1, 1, -1);
        Due.due("best every", x.best(0, 0, 2, 31), 11);
    }

    /** "NONE: none": all are left out, or there is no number from low to high. */
    private static void bestOfNone() {
        BranchPlay x = withWays("every 20; ahead 10;");
        Due.due("best(0, 0, 2, 10)", x.best(0, 0, 2, 10), -1);
        Due.due("best(0, 0, 10, 10)", x.best(0, 0, 10, 10), -1);
        Due.due("best(0, 1, 20, 20)", x.best(0, 1, 20, 20), -1);
        Due.due("best(0, 1, 20, 49)", x.best(0, 1, 20, 49), -1);
        Due.due("best(0, 1, 20, 50), thirty-one", x.best(0, 1, 20, 50), -2);
        for (int rule = 0; rule < 6; rule++) {
            Due.due("best(0, " + rule + ", the most, the least)", x.best(0, rule, MOST[rule], LEAST[rule]), -1);
            Due.due("best(0, " + rule + ", 6, 5)", x.best(0, rule, 6, 5), -1);
        }
    }

    /** best() "NONE" and "RANGE. (WAY and latest play() stay.)" */
    private static void refusedBestLeavesAll() {
        BranchPlay x = some();
        x.play(1);
        String ahead = Seen.of(x);
        int[][] calls = {{-1, 0, 5, 6}, {4, 0, 5, 6}, {0, -1, 5, 6}, {0, 6, 5, 6}, {0, 7, 1, 1}, {0, 0, 1, 5},
            {0, 0, 99, 101}, {0, 0, 5, 35}, {0, 0, 2, 4}, {0, 1, 20, 21}, {1, 3, 0, 9}, {1, 5, 0, 10},
            {2, 2, MIN, MAX}, {2, 2, MAX, MIN}, {2, 4, 9, 8}};
        for (int[] a : calls) {
            String call = "best(" + a[0] + ", " + a[1] + ", " + a[2] + ", " + a[3] + ")";
            Due.due(call + " is refused", x.best(a[0], a[1], a[2], a[3]) < 0 ? 1 : 0, 1);
            Seen.same(call, ahead, x);
        }
    }

    /** "What 0: CHANGES, 1: bytes of THE TAPE, 2: which WAY was played latest (NONE: none since, as told())." */
    private static void counts() {
        BranchPlay x = new BranchPlay();
        Due.due("count(0) of none", x.count(0), 0);
        Due.due("count(1) of none", x.count(1), 0);
        Due.due("count(2) of none", x.count(2), -1);
        for (int c = 1; c <= 60; c++) {
            x.change(0, 1, 1, -1);
            Due.due("count(0)", x.count(0), c);
        }
        x.change(0, 1, 1, -1);
        Due.due("count(0) behind FULL", x.count(0), 60);
        for (int i = 1; i <= 30; i++) {
            x.feed(0, 0, 0, 0, 0);
            Due.due("count(1)", x.count(1), 20 * i);
        }
        x.feed(0, 0, 0, 0, 0);
        Due.due("count(1) behind FULL", x.count(1), 600);
        for (int w = 0; w < 4; w++) {
            x.play(w);
            Due.due("count(2)", x.count(2), w);
        }
        x.end(0);
        Due.due("count(1) behind end(0)", x.count(1), 0);
        Due.due("count(2) behind end(0)", x.count(2), 3);
        x.way(0);
        Due.due("count(2) behind way(0)", x.count(2), -1);
        x.play(0);
        x.hang(1, 0);
        Due.due("count(2) behind hang(1, 0)", x.count(2), -1);
    }

    /** "NONE for others." */
    private static void countOfNone() {
        BranchPlay x = some();
        x.feed(0, 0, 0, 0, 0);
        x.play(1);
        for (int what : new int[] {-1, -2, 3, 4, MIN, MAX}) {
            Due.due("count(" + what + ")", x.count(what), -1);
        }
    }

    /** "at most 512 calls after it has been made": the last of them answers as the first, however dear. */
    private static void lastCall() {
        BranchPlay x = new BranchPlay();
        for (int c = 0; c < 60; c++) {
            x.change(c, 1 << c % 30, 1 + c % 20, c % 2 == 0 ? 1 + c : -1);
        }
        int first = x.best(0, 0, 5, 34);
        for (int call = 62; call < 512; call++) {
            x.best(call % 4, call % 3, 5, 34);
        }
        Due.due("best(0, 0, 5, 34), the last call", x.best(0, 0, 5, 34), first);
    }
}
