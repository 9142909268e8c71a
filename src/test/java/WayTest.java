/** Promises 4 to 6: way, fault, rule. */
public final class WayTest {
    public static void main(String[] args) {
        goodTexts();
        syntaxFaults();
        boundFaults();
        otherFaults();
        latestFault();
        tapeAndWay();
        tapeBehindRange();
        whatLiesBehindTheEnd();
        fullTape();
        wrongNumbers();
        Due.finish();
    }

    private static void good(String text, int lines, int... rules) {
        BranchPlay x = new BranchPlay();
        Due.due("way(3) of <" + text + ">", Due.way(x, 3, text), lines);
        Due.due("fault(0) of <" + text + ">", x.fault(0), 0);
        Due.due("fault(1) of <" + text + ">", x.fault(1), -1);
        for (int what = 0; what < rules.length; what++) {
            Due.due("rule(3, " + what + ") of <" + text + ">", x.rule(3, what), rules[what]);
        }
    }

    private static void bad(String text, int kind, int place) {
        BranchPlay x = new BranchPlay();
        Due.due("way(3) of <" + text + ">", Due.way(x, 3, text), -1);
        Due.due("fault(0) of <" + text + ">", x.fault(0), kind);
        Due.due("fault(1) of <" + text + ">", x.fault(1), place);
    }

    private static void goodTexts() {
        good("", 0, 20, 4, 2, 3, 0, 1, -1, 1);
        good(" \n \n", 0, 20, 4, 2, 3, 0, 1, -1, 1);
        good("every 2;ahead 1;", 2, 2, 1);
        good("ahead 1;every 2;", 2, 2, 1);
        good("ahead 50; every 100; test 50; queue 9; freeze 50; rework 9; hot 50; pick all;",
            8, 100, 50, 50, 9, 50, 9, 50, 2);
        good("test 0;queue 1;freeze 0;rework 0;hot 1;pick none;", 6, 20, 4, 0, 1, 0, 0, 1, 0);
        good("pick fixes;", 1, 20, 4, 2, 3, 0, 1, -1, 1);
        good("\nhot\n\n007 \n;  pick\nnone\n;test005;", 3, 20, 4, 5, 3, 0, 1, 7, 0);
        good("every5;", 1, 5, 4);
        good("ahead 19;", 1, 20, 19);
        good("every 100;" + " ".repeat(580) + "hot 3;   ".trim() + "    ", 2, 100, 4, 2, 3, 0, 1, 3, 1);
    }

    private static void syntaxFaults() {
        bad("every", 1, 5);
        bad("every ", 1, 6);
        bad("every 3", 1, 7);
        bad("every 5 \n", 1, 9);
        bad("pick", 1, 4);
        bad("pick all", 1, 8);
        bad(";", 1, 0);
        bad(" 5;", 1, 1);
        bad("all;", 1, 0);
        bad("ever 5;", 1, 0);
        bad("everyy 5;", 1, 0);
        bad("Every 5;", 1, 0);
        bad("eVery 5;", 1, 0);
        bad("hot;", 1, 3);
        bad("hot hot;", 1, 4);
        bad("hot all;", 1, 4);
        bad("hot 0005;", 1, 4);
        bad("hot 5 5;", 1, 6);
        bad("hot 5 every 3;", 1, 6);
        bad("hot 5 hot 3;", 1, 6);
        bad("hot 5;;", 1, 6);
        bad("hot -5;", 1, 4);
        bad("hot\t5;", 1, 3);
        bad("hot 5\r;", 1, 5);
        bad("hot 5;.", 1, 6);
        bad("hot 5.", 1, 5);
        bad("pick every;", 1, 5);
        bad("pick 1;", 1, 5);
        bad("pick allx;", 1, 5);
        bad("pick al;", 1, 5);
        bad("pick all all;", 1, 9);
        bad("hot 5;\0", 1, 6);
        bad("hot 5;\u00e9", 1, 6);
        bad("1234", 1, 0);
        bad("picks none;", 1, 0);
    }

    private static void boundFaults() {
        String[] words = {"every", "ahead", "test", "queue", "freeze", "rework", "hot"};
        int[] least = {2, 1, 0, 1, 0, 0, 1};
        int[] most = {100, 50, 50, 9, 50, 9, 50};
        for (int r = 0; r < words.length; r++) {
            int place = words[r].length() + 1;
            bad(words[r] + " " + (most[r] + 1) + ";", 2, place);
            bad(words[r] + " 999;", 2, place);
            bad(words[r] + " 1000;", 1, place);
            if (least[r] > 0) {
                bad(words[r] + " " + (least[r] - 1) + ";", 2, place);
            }
        }
        bad("every 1", 2, 6);
        bad("every 1 x", 2, 6);
        bad("hot 5; queue 10; x", 2, 13);
    }

    private static void otherFaults() {
        bad("every 5; every 5;", 3, 9);
        bad("every 5; every 999;", 3, 9);
        bad("every 5; every", 3, 9);
        bad("pick all;pick all;", 3, 9);
        bad("hot 5;test 1;hot 5;", 3, 13);
        bad("every 4;", 4, 8);
        bad("every 3;  ", 4, 10);
        bad("ahead 20;", 4, 9);
        bad("every 2; ahead 2;", 4, 17);
        bad("ahead 50; every 50;\n", 4, 20);
        bad("every 4", 1, 7);
    }

    private static void latestFault() {
        BranchPlay x = new BranchPlay();
        Due.way(x, 0, "x");
        Due.put(x, "every 1;");
        Due.due("way(4)", x.way(4), -2);
        Due.due("fault(0) behind RANGE", x.fault(0), 1);
        Due.due("fault(1) behind RANGE", x.fault(1), 0);
        Due.due("way(0)", Due.way(x, 0, "every 1;"), -1);
        Due.due("fault(0)", x.fault(0), 2);
        Due.due("fault(1)", x.fault(1), 6);
        Due.due("fault(2)", x.fault(2), -1);
        Due.due("fault(-1)", x.fault(-1), -1);
        Due.way(x, 0, "hot 2;");
        Due.due("fault(0) of a good text", x.fault(0), 0);
        Due.due("fault(1) of a good text", x.fault(1), -1);
    }

    private static void tapeAndWay() {
        BranchPlay x = new BranchPlay();
        Due.due("way(1)", Due.way(x, 1, "every 9; hot 3; pick all;"), 3);
        Due.due("count(1) behind way", x.count(1), 0);
        Due.due("way(1) with a fault", Due.way(x, 1, "test 9; hot 4; hot 4;"), -1);
        Due.due("count(1) behind a fault", x.count(1), 0);
        Due.due("rule(1, 0) stays", x.rule(1, 0), 9);
        Due.due("rule(1, 2) stays", x.rule(1, 2), 2);
        Due.due("rule(1, 6) stays", x.rule(1, 6), 3);
        Due.due("rule(1, 7) stays", x.rule(1, 7), 2);
        Due.due("rule(0, 0) is its own", x.rule(0, 0), 20);
        Due.due("way(1) anew", Due.way(x, 1, "test 9;"), 1);
        Due.due("rule(1, 0) is the usual again", x.rule(1, 0), 20);
        Due.due("rule(1, 6) is the usual again", x.rule(1, 6), -1);
        Due.due("rule(1, 7) is the usual again", x.rule(1, 7), 1);
        Due.due("rule(1, 2)", x.rule(1, 2), 9);
        Due.due("way(1) of an empty tape", x.way(1), 0);
        Due.due("rule(1, 2) of an empty text", x.rule(1, 2), 2);
    }

    /** A way() that is RANGE empties the tape like any other, and leaves ways, fault and play. */
    private static void tapeBehindRange() {
        int[] noWays = {-1, 4, Integer.MIN_VALUE, Integer.MAX_VALUE};
        for (int w : noWays) {
            BranchPlay x = new BranchPlay();
            x.play(3);
            Due.put(x, "test 9;");
            Due.due("way(" + w + ")", x.way(w), -2);
            Due.due("count(1) behind way(" + w + ")", x.count(1), 0);
            Due.due("end(1) behind way(" + w + ")", x.end(1), -1);
            Due.due("fault(0) behind way(" + w + ")", x.fault(0), 0);
            Due.due("count(2) behind way(" + w + ")", x.count(2), 3);
            for (int known = 0; known < 4; known++) {
                Due.due("rule(" + known + ", 2) behind way(" + w + ")", x.rule(known, 2), 2);
            }
            Due.due("feed behind way(" + w + ")", x.feed(0, 0, 0, 0, 0), 20);
            Due.due("end(0)", x.end(0), 0);
            Due.due("way(0) behind way(" + w + ")", x.way(0), 0);
        }
        BranchPlay full = new BranchPlay();
        Due.put(full, " ".repeat(600));
        Due.due("feed of a full tape", full.feed(0, 0, 0, 0, 0), -3);
        Due.due("way(4) of a full tape", full.way(4), -2);
        Due.due("feed behind way(4)", full.feed(0, 0, 0, 0, 0), 20);
    }

    /** Bytes that end() cut off lie in the room yet, but are no part of the text. */
    private static void whatLiesBehindTheEnd() {
        String[] texts = {"hot 51;", "hot 5;", "hots", "hot 5;;", "hot 5;   x"};
        int[] ends = {5, 5, 3, 6, 9};
        int[] kinds = {1, 1, 1, 0, 0};
        for (int i = 0; i < texts.length; i++) {
            BranchPlay x = new BranchPlay();
            Due.put(x, texts[i]);
            x.end(ends[i]);
            Due.due("way(0) of a part of <" + texts[i] + ">", x.way(0), kinds[i] == 0 ? 1 : -1);
            Due.due("fault(0) of a part of <" + texts[i] + ">", x.fault(0), kinds[i]);
            Due.due("fault(1) of a part of <" + texts[i] + ">", x.fault(1), kinds[i] == 0 ? -1 : ends[i]);
        }
    }

    private static void fullTape() {
        good(" ".repeat(594) + "hot 9;", 1, 20, 4, 2, 3, 0, 1, 9, 1);
        good("hot 9;" + "\n".repeat(594), 1, 20, 4, 2, 3, 0, 1, 9, 1);
        bad(" ".repeat(595) + "every", 1, 600);
        bad(" ".repeat(596) + "ever", 1, 596);
        bad(" ".repeat(595) + "hot 9", 1, 600);
        bad(" ".repeat(593) + "hot 999", 2, 597);
        bad(";".repeat(600), 1, 0);
        bad("x".repeat(600), 1, 0);
        bad("9".repeat(600), 1, 0);
        bad("hot" + "9".repeat(597), 1, 3);
        bad(" ".repeat(592) + "every 4;", 4, 600);
    }

    private static void wrongNumbers() {
        BranchPlay x = new BranchPlay();
        int[] noWays = {-1, 4, Integer.MIN_VALUE, Integer.MAX_VALUE};
        for (int w : noWays) {
            Due.due("way(" + w + ")", x.way(w), -2);
            Due.due("rule(" + w + ", 0)", x.rule(w, 0), -9);
        }
        int[] noRules = {-1, 8, Integer.MIN_VALUE, Integer.MAX_VALUE};
        for (int what : noRules) {
            Due.due("rule(0, " + what + ")", x.rule(0, what), -9);
        }
    }
}
