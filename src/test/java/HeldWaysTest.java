/** Promises 16 to 20: parts, prices, costs, best, count. */
public final class HeldWaysTest {
    public static void main(String[] args) {
        parting();
        pricing();
        bestNumbers();
        bestBounds();
        counting();
        Due.finish();
    }

    private static void parting() {
        BranchPlay x = new BranchPlay();
        x.change(3, 1, 2, -1);
        x.change(3, 2, 2, -1);
        Due.way(x, 1, "queue 1;");
        Due.way(x, 2, "every 10;");
        Due.way(x, 3, "every 5; ahead 4;");
        Due.due("parts(0, 0)", x.parts(0, 0), -1);
        Due.due("parts(0, 1), by the trunk", x.parts(0, 1), 5);
        Due.due("parts(1, 0)", x.parts(1, 0), 5);
        Due.due("parts(0, 2), by what is out", x.parts(0, 2), 10);
        Due.due("parts(2, 0)", x.parts(2, 0), 10);
        Due.due("parts(3, 2)", x.parts(3, 2), -1);
        Due.due("parts(3, 0)", x.parts(3, 0), 10);
        int[] none = {-1, 4, Integer.MIN_VALUE, Integer.MAX_VALUE};
        for (int w : none) {
            Due.due("parts(" + w + ", 0)", x.parts(w, 0), -2);
            Due.due("parts(0, " + w + ")", x.parts(0, w), -2);
        }
        // Unlike ways are alike without changes; and the latest play stays.
        BranchPlay y = new BranchPlay();
        Due.way(y, 1, "every 7;");
        Due.due("parts(0, 1) of nothing", y.parts(0, 1), -1);
        x.play(2);
        Due.due("parts(1, 3)", x.parts(1, 3), 5);
        Due.due("release(0, 0) stays", x.release(0, 0), 10);
        Due.due("count(2) stays", x.count(2), 2);
    }

    private static BranchPlay priced() {
        BranchPlay x = new BranchPlay();
        // Waits 20 and 19, two breaks met, hours 1 + 2 + 3 + 4, one never out.
        x.change(0, 1, 1, 1);
        x.change(1, 2, 2, 100);
        x.change(390, 4, 3, -1);
        x.change(0, 8, 4, -1);
        Due.way(x, 1, "test 0; rework 0;");
        return x;
    }

    private static void pricing() {
        BranchPlay x = priced();
        // The fourth waits 20 too.
        Due.due("costs(1) at first", x.costs(1), 59 + 200 + 2 * 10 + 50);
        Due.due("prices(1, 0, 0, 0)", x.prices(1, 0, 0, 0), 1);
        Due.due("costs(1) of waits", x.costs(1), 59);
        Due.due("prices(0, 1, 0, 0)", x.prices(0, 1, 0, 0), 1);
        Due.due("costs(1) of met", x.costs(1), 2);
        Due.due("prices(0, 0, 1, 0)", x.prices(0, 0, 1, 0), 1);
        Due.due("costs(1) of hours", x.costs(1), 10);
        Due.due("prices(0, 0, 0, 1)", x.prices(0, 0, 0, 1), 1);
        Due.due("costs(1) of never", x.costs(1), 1);
        Due.due("prices(1000, ..)", x.prices(1000, 1000, 1000, 1000), 1);
        Due.due("costs(1) at the highest", x.costs(1), 72000);
        int[] wrong = {-1, 1001, Integer.MIN_VALUE, Integer.MAX_VALUE};
        for (int p : wrong) {
            Due.due("prices(" + p + ", 0, 0, 0)", x.prices(p, 0, 0, 0), -2);
            Due.due("prices(0, " + p + ", 0, 0)", x.prices(0, p, 0, 0), -2);
            Due.due("prices(0, 0, " + p + ", 0)", x.prices(0, 0, p, 0), -2);
            Due.due("prices(0, 0, 0, " + p + ")", x.prices(0, 0, 0, p), -2);
            Due.due("costs(" + p + ")", x.costs(p), -2);
        }
        Due.due("costs(4)", x.costs(4), -2);
        Due.due("costs(1) behind RANGE", x.costs(1), 72000);
        x.play(0);
        x.costs(1);
        Due.due("count(2) stays", x.count(2), 0);
        Due.due("told(0, 2) stays", x.told(0, 2), 20);
    }

    private static void bestNumbers() {
        BranchPlay x = priced();
        x.prices(1, 0, 0, 0);
        // With every 8 all three are on the first branch, which is cut at 4.
        Due.due("best every", x.best(1, 0, 5, 34), 8);
        Due.due("best every, the least left out", x.best(1, 0, 2, 31), 8);
        Due.due("best every, all left out", x.best(1, 0, 2, 4), -1);
        Due.due("best ahead, all left out", x.best(1, 1, 20, 49), -1);
        Due.due("best ahead, one alone", x.best(1, 1, 19, 48), 19);
        Due.due("best ahead, of alike the least", x.best(1, 1, 3, 16), 3);
        Due.due("best test", x.best(1, 2, 0, 29), 0);
        Due.due("best test, the least that is alike", x.best(1, 2, 3, 16), 3);
        Due.due("best queue", x.best(1, 3, 1, 9), 1);
        Due.due("best freeze", x.best(1, 4, 0, 29), 0);
        Due.due("best freeze, of alike the least", x.best(1, 4, 21, 50), 21);
        Due.due("best rework", x.best(1, 5, 0, 9), 0);
        Due.due("rule(1, 0) stays", x.rule(1, 0), 20);
        Due.due("rule(1, 5) stays", x.rule(1, 5), 0);
        x.play(1);
        x.best(1, 0, 5, 9);
        Due.due("release(0, 0) stays", x.release(0, 0), 20);
        Due.due("count(2) stays", x.count(2), 1);

        // Only one number lets both out at the first release.
        BranchPlay y = new BranchPlay();
        y.change(0, 1, 12, -1);
        y.change(0, 1, 14, -1);
        Due.way(y, 0, "pick none; test 0; rework 0; every 20;");
        Due.due("best every for two", y.best(0, 0, 10, 35), 18);
        Due.due("best ahead for two", y.best(0, 1, 1, 19), 1);
        Due.due("best ahead from 7 on", y.best(0, 1, 7, 19), 7);
        Due.way(y, 0, "pick none; test 0; rework 5; every 20; ahead 1;");
        Due.due("best rework, above 0", y.best(0, 5, 1, 9), 1);
    }

    private static void bestBounds() {
        BranchPlay x = priced();
        int[] least = {2, 1, 0, 1, 0, 0};
        int[] most = {100, 50, 50, 9, 50, 9};
        for (int r = 0; r < 6; r++) {
            String of = "best(1, " + r + ", ";
            Due.due(of + "least - 1, ..)", x.best(1, r, least[r] - 1, least[r] + 1), -2);
            Due.due(of + "most + 1)", x.best(1, r, most[r] - 1, most[r] + 1), -2);
            Due.due(of + "min, max)", x.best(1, r, Integer.MIN_VALUE, Integer.MAX_VALUE), -2);
            Due.due(of + "max, min)", x.best(1, r, Integer.MAX_VALUE, Integer.MIN_VALUE), -2);
            Due.due(of + "none)", x.best(1, r, least[r] + 1, least[r]), -1);
            if (most[r] - least[r] >= 30) {
                Due.due(of + "31 numbers)", x.best(1, r, most[r] - 30, most[r]), -2);
                int thirty = x.best(1, r, most[r] - 29, most[r]);
                Due.due(of + "30 numbers)", thirty == -2 ? 1 : 0, 0);
            }
        }
        int[] none = {-1, 6, 7, 8, Integer.MIN_VALUE, Integer.MAX_VALUE};
        for (int r : none) {
            Due.due("best(1, " + r + ", 5, 6)", x.best(1, r, 5, 6), -2);
        }
        int[] noWays = {-1, 4, Integer.MIN_VALUE, Integer.MAX_VALUE};
        for (int w : noWays) {
            Due.due("best(" + w + ", 0, 5, 6)", x.best(w, 0, 5, 6), -2);
        }
    }

    private static void counting() {
        BranchPlay x = new BranchPlay();
        x.change(0, 1, 1, -1);
        x.change(0, 1, 1, -1);
        x.feed(0, 0, 0, 0, 0);
        x.end(13);
        x.play(3);
        Due.due("count(0)", x.count(0), 2);
        Due.due("count(1)", x.count(1), 13);
        Due.due("count(2)", x.count(2), 3);
        Due.due("count(3)", x.count(3), -1);
        Due.due("count(-1)", x.count(-1), -1);
        Due.due("count(min)", x.count(Integer.MIN_VALUE), -1);
        x.play(0);
        Due.due("count(2) of the latest", x.count(2), 0);
        x.change(0, 1, 1, -1);
        Due.due("count(2) behind a change", x.count(2), -1);
        Due.due("count(0) behind a change", x.count(0), 3);
    }
}
