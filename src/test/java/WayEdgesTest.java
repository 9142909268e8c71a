/** The edges that the document names for a way's text, a sentence each: Terms I, promises 4 to 6. */
public final class WayEdgesTest {
    private static final int MIN = Integer.MIN_VALUE;
    private static final int MAX = Integer.MAX_VALUE;
    private static final String[] WORDS = {"every", "ahead", "test", "queue", "freeze", "rework", "hot"};
    private static final int[] LEAST = {2, 1, 0, 1, 0, 0, 1};
    private static final int[] MOST = {100, 50, 50, 9, 50, 9, 50};
    private static final int[] USUAL = {20, 4, 2, 3, 0, 1, -1, 1};
    private static final String[] PICKS = {"none", "fixes", "all"};

    public static void main(String[] args) {
        fourWays();
        refusedWayLeavesAllButTheTape();
        faultLeavesTheWay();
        tapeIsEmptyThen();
        blanksAreTwoBytes();
        wordsAreSmallLetters();
        numbersAreDigits();
        threeDigitsAtMost();
        boundsOfEachNumber();
        picksAreThree();
        usualOfWhatIsNotTold();
        aheadBelowEvery();
        placeAtTheEnd();
        noTextGoesOn();
        toldTwice();
        firstFaultComeTo();
        leastKindOfOneToken();
        linesFromNoneToAll();
        faultAheadOfAny();
        faultOfTheLatest();
        ruleOfNone();
        Due.finish();
    }

    private static void good(String text, int lines) {
        BranchPlay x = new BranchPlay();
        Due.due("way(0) of <" + text + ">", Due.way(x, 0, text), lines);
        Due.due("fault(0) of <" + text + ">", x.fault(0), 0);
        Due.due("fault(1) of <" + text + ">", x.fault(1), -1);
    }

    private static void bad(String text, int kind, int place) {
        BranchPlay x = new BranchPlay();
        Due.due("way(0) of <" + text + ">", Due.way(x, 0, text), -1);
        Due.due("fault(0) of <" + text + ">", x.fault(0), kind);
        Due.due("fault(1) of <" + text + ">", x.fault(1), place);
    }

    /** Something of each kind: a fix, a hang, ways, a fault, prices and a play. */
    private static BranchPlay full() {
        BranchPlay x = new BranchPlay();
        x.change(0, 1, 1, 5);
        x.change(0, 3, 2, -1);
        x.change(9, 2, 3, -1);
        x.fix(1, 0);
        x.hang(2, 0);
        Due.way(x, 0, "every 9; hot 3; pick all;");
        Due.way(x, 1, "ahead 7; test 1; queue 2;");
        Due.way(x, 2, "freeze 8; rework 2;");
        Due.way(x, 3, "every 50; pick none;");
        Due.way(x, 3, "every 50; hot 51;");
        x.prices(4, 3, 2, 1);
        x.play(1);
        return x;
    }

    /** "WAYS 0 .. 3", "RANGE: no such WAY." */
    private static void fourWays() {
        BranchPlay x = new BranchPlay();
        for (int w = 0; w < 4; w++) {
            Due.due("way(" + w + ")", Due.way(x, w, "test " + (w + 10) + ";"), 1);
        }
        for (int w : new int[] {-1, 4, 5, 8, MIN, MAX}) {
            Due.due("way(" + w + ")", Due.way(x, w, "test 20;"), -2);
            Due.due("rule(" + w + ", 2)", x.rule(w, 2), -9);
        }
        for (int w = 0; w < 4; w++) {
            Due.due("rule(" + w + ", 2)", x.rule(w, 2), w + 10);
        }
    }

    /** "RANGE": the ways, the fault and the play stay, though the tape is empty. */
    private static void refusedWayLeavesAllButTheTape() {
        for (int w : new int[] {-1, 4, MIN, MAX}) {
            for (String text : new String[] {"", "test 9;", "every 1;", "x", " ".repeat(600)}) {
                BranchPlay x = full();
                String ahead = Seen.of(x);
                Due.put(x, text);
                Due.due("way(" + w + ") of <" + text + ">", x.way(w), -2);
                Seen.same("way(" + w + ") of <" + text + ">", ahead, x);
            }
        }
    }

    /** "NONE with a FAULT (the WAY stays)." */
    private static void faultLeavesTheWay() {
        String[] texts = {"x", "every 9; test 51;", "every 9; every 9;", "every 3;", "pick all; hot"};
        for (int w = 0; w < 4; w++) {
            for (String text : texts) {
                BranchPlay x = full();
                // The fault is the new one's: all else is held.
                String ahead = Seen.of(x).replaceFirst("fault \\S+ [^,]+", "");
                Due.due("way(" + w + ") of <" + text + ">", Due.way(x, w, text), -1);
                String behind = Seen.of(x).replaceFirst("fault \\S+ [^,]+", "");
                Due.due("way(" + w + ") of <" + text + "> stays", behind.equals(ahead) ? 1 : 0, 1);
            }
        }
    }

    /** "THE TAPE (read, and empty then)", behind each answer. */
    private static void tapeIsEmptyThen() {
        String[] texts = {"", " ", "test 9;", "x", "test 51;", "test 1;test 1;", "every 4;"};
        for (String text : texts) {
            for (int w = -1; w <= 4; w++) {
                BranchPlay x = new BranchPlay();
                Due.way(x, w, text);
                String of = "behind way(" + w + ") of <" + text + ">";
                Due.due("count(1) " + of, x.count(1), 0);
                Due.due("end(1) " + of, x.end(1), -1);
                Due.due("way(0) " + of, x.way(0), 0);
                Due.due("feed " + of, x.feed(0, 0, 0, 0, 0), 20);
            }
        }
    }

    private static boolean isBlank(int b) {
        return b == 32 || b == 10;
    }

    private static boolean isLetter(int b) {
        return b >= 97 && b <= 122;
    }

    private static boolean isDigit(int b) {
        return b >= 48 && b <= 57;
    }

    /** "any blanks (32, 10) between", and no other byte is one. */
    private static void blanksAreTwoBytes() {
        for (int b = 0; b < 256; b++) {
            String one = String.valueOf((char) b);
            if (isBlank(b)) {
                good(one, 0);
                good(one + one + "hot" + one + one + "5" + one + one + ";" + one + one, 1);
            } else {
                bad(one, 1, 0);
                bad("hot 5;" + one, 1, 6);
                bad(" \n" + one, 1, 2);
            }
        }
        good(" ".repeat(600), 0);
        good("\n".repeat(600), 0);
        // None is needed, either.
        good("every9;ahead8;test7;queue6;freeze5;rework4;hot3;pick none;", 8);
        bad("picknone;", 1, 0);
        bad("e very 9;", 1, 0);
        bad("hot 1 0;", 1, 6);
    }

    /** "WORDS (small letters, as many as there are)". */
    private static void wordsAreSmallLetters() {
        for (int b = 0; b < 256; b++) {
            String text = "every" + (char) b;
            if (isLetter(b)) {
                bad(text, 1, 0);
            } else if (isDigit(b)) {
                bad(text, b - 48 < 2 ? 2 : 1, b - 48 < 2 ? 5 : 6);
            } else {
                bad(text, 1, isBlank(b) ? 6 : 5);
            }
        }
        for (String word : WORDS) {
            good(word.equals("every") ? "every 9;" : word + " 3;", 1);
            bad(word.substring(1) + " 9;", 1, 0);
            bad(word.substring(0, word.length() - 1) + " 9;", 1, 0);
            bad(word + "s 9;", 1, 0);
            bad(word.toUpperCase() + " 9;", 1, 0);
            bad(word + word + " 9;", 1, 0);
        }
        bad("a".repeat(600), 1, 0);
        bad("hot " + "z".repeat(596), 1, 4);
    }

    /** "NUMBERS (digits, as many as there are ..)". */
    private static void numbersAreDigits() {
        for (int b = 0; b < 256; b++) {
            String text = "hot 5" + (char) b;
            if (b == ';') {
                good(text, 1);
            } else if (isDigit(b)) {
                bad(text, b == 48 ? 1 : 2, b == 48 ? 6 : 4);
            } else {
                bad(text, 1, isBlank(b) ? 6 : 5);
            }
        }
        bad("hot -5;", 1, 4);
        bad("hot +5;", 1, 4);
        bad("hot 5.0;", 1, 5);
    }

    /** "3 at most", "a NUMBER of four digits" is SYNTAX, whatever it would be worth. */
    private static void threeDigitsAtMost() {
        for (int r = 0; r < WORDS.length; r++) {
            int place = WORDS[r].length() + 1;
            String nine = WORDS[r] + " ";
            good(nine + "9;", 1);
            good(nine + "09;", 1);
            good(nine + "009;", 1);
            bad(nine + "0009;", 1, place);
            bad(nine + "00009;", 1, place);
            bad(nine + "999;", 2, place);
            bad(nine + "1000;", 1, place);
            bad(nine + "9999;", 1, place);
            bad(nine + "4294967305;", 1, place);
            bad(nine + "9".repeat(500) + ";", 1, place);
        }
        good("test 000;", 1);
        bad("test 0000;", 1, 5);
    }

    /** "Bounds of N: every 2 .. 100, ahead, hot 1 .. 50, test, freeze 0 .. 50, queue 1 .. 9, rework 0 .. 9." */
    private static void boundsOfEachNumber() {
        for (int r = 0; r < WORDS.length; r++) {
            // So that ahead is below every at the end.
            String rest = r == 0 ? "ahead 1;" : r == 1 ? "every 100;" : "";
            for (int n = 0; n < 1000; n++) {
                BranchPlay x = new BranchPlay();
                String text = WORDS[r] + " " + n + ";" + rest;
                boolean within = n >= LEAST[r] && n <= MOST[r];
                Due.due("way(2) of <" + text + ">", Due.way(x, 2, text), within ? rest.isEmpty() ? 1 : 2 : -1);
                Due.due("fault(0) of <" + text + ">", x.fault(0), within ? 0 : 2);
                Due.due("fault(1) of <" + text + ">", x.fault(1), within ? -1 : WORDS[r].length() + 1);
                Due.due("rule(2, " + r + ") of <" + text + ">", x.rule(2, r), within ? n : USUAL[r]);
            }
        }
    }

    /** "pick ("none" | "fixes" | "all")", "pick (0 none, 1 fixes, 2 all)". */
    private static void picksAreThree() {
        for (int p = 0; p < 3; p++) {
            BranchPlay x = new BranchPlay();
            Due.due("way(0) of pick " + PICKS[p], Due.way(x, 0, "pick " + PICKS[p] + ";"), 1);
            Due.due("rule(0, 7) of pick " + PICKS[p], x.rule(0, 7), p);
            bad("pick " + PICKS[p] + "s;", 1, 5);
            bad("pick " + PICKS[p].substring(1) + ";", 1, 5);
            bad("pick " + PICKS[p].toUpperCase() + ";", 1, 5);
            bad(PICKS[p] + " 3;", 1, 0);
            bad("hot " + PICKS[p] + ";", 1, 4);
        }
        for (String word : WORDS) {
            bad("pick " + word + ";", 1, 5);
        }
        bad("pick pick;", 1, 5);
        bad("pick 0;", 1, 5);
        bad("pick 2;", 1, 5);
        bad("pick;", 1, 4);
        bad("pick", 1, 4);
    }

    /** "What isn't told: every 20, .. no hot. (A WAY is so ahead of any text.)" */
    private static void usualOfWhatIsNotTold() {
        BranchPlay x = new BranchPlay();
        for (int w = 0; w < 4; w++) {
            usual(x, w, "ahead of any text", -1);
        }
        for (int r = 0; r < WORDS.length; r++) {
            Due.way(x, 0, "every 9; ahead 8; test 7; queue 6; freeze 5; rework 4; hot 3; pick all;");
            Due.way(x, 0, WORDS[r] + " 8;");
            usual(x, 0, "with " + WORDS[r], r);
            Due.due("rule(0, " + r + ")", x.rule(0, r), 8);
        }
        Due.way(x, 0, "pick none;");
        usual(x, 0, "with pick", 7);
        Due.way(x, 0, "");
        usual(x, 0, "of an empty text", -1);
    }

    private static void usual(BranchPlay x, int w, String when, int butFor) {
        for (int what = 0; what < 8; what++) {
            if (what != butFor) {
                Due.due("rule(" + w + ", " + what + ") " + when, x.rule(w, what), USUAL[what]);
            }
        }
    }

    /** "ahead must be below every at the text's end", "4 AHEAD: at the text's end ahead isn't below every." */
    private static void aheadBelowEvery() {
        BranchPlay x = new BranchPlay();
        for (int every = 2; every <= 100; every++) {
            for (int ahead = 1; ahead <= 50; ahead++) {
                String text = "every " + every + ";ahead " + ahead + ";";
                boolean is = ahead < every;
                Due.due("way(0) of <" + text + ">", Due.way(x, 0, text), is ? 2 : -1);
                Due.due("fault(0) of <" + text + ">", x.fault(0), is ? 0 : 4);
                Due.due("fault(1) of <" + text + ">", x.fault(1), is ? -1 : text.length());
            }
        }
        // Against what isn't told; and only the end counts, not the way there.
        bad("every 3;", 4, 8);
        bad("every 4;", 4, 8);
        good("every 5;", 1);
        good("ahead 19;", 1);
        bad("ahead 20;", 4, 9);
        good("ahead 20;every 21;", 2);
        good("every 2;ahead 1;", 2);
        bad("ahead 30;every 30;", 4, 18);
    }

    /** "PLACE (.. the text's length at its end)", blanks and all. */
    private static void placeAtTheEnd() {
        String[] texts = {"every", "every 9", "pick", "pick all", "hot 5; test", "hot 5; test 9"};
        for (String text : texts) {
            for (int blanks = 0; blanks < 4; blanks++) {
                String whole = text + " \n \n".substring(0, blanks);
                bad(whole, 1, whole.length());
            }
            bad(text + " ".repeat(600 - text.length()), 1, 600);
            bad(" ".repeat(600 - text.length()) + text, 1, 600);
        }
        bad("every 4;" + "\n".repeat(592), 4, 600);
        bad(" ".repeat(592) + "every 4;", 4, 600);
        good("", 0);
    }

    /** "1 SYNTAX: a TOKEN (or byte that is none ..) with which no text goes on." */
    private static void noTextGoesOn() {
        // At each turn of a line, each kind of token that is not due there.
        for (String wrong : new String[] {";", "5", "all", "x", ".", "0000"}) {
            bad(" " + wrong, 1, 1);
            bad("hot 5; " + wrong, 1, 7);
        }
        for (String wrong : new String[] {";", "hot", "every", "all", "x", ".", "0000"}) {
            bad("hot " + wrong, 1, 4);
        }
        for (String wrong : new String[] {";", "hot", "pick", "5", "x", ".", "0000"}) {
            bad("pick " + wrong, 1, 5);
        }
        for (String wrong : new String[] {"hot", "every", "all", "5", "x", ".", "0000"}) {
            bad("hot 5 " + wrong, 1, 6);
            bad("pick all " + wrong, 1, 9);
        }
    }

    /** "3 TWICE: a line's first WORD that was told already." */
    private static void toldTwice() {
        for (String word : WORDS) {
            String line = word + " 9;";
            bad(line + line, 3, line.length());
            bad(line + word, 3, line.length());
            bad(line + word + " 1000;", 3, line.length());
            if (!word.equals("hot")) {
                bad(line + "hot 5;" + word + " 7;", 3, line.length() + 6);
            }
        }
        bad("pick all;pick all;", 3, 9);
        bad("pick all;pick none;", 3, 9);
        // Told in an earlier text is not told already.
        BranchPlay x = new BranchPlay();
        Due.due("way(0)", Due.way(x, 0, "hot 5;"), 1);
        Due.due("way(0) again", Due.way(x, 0, "hot 5;"), 1);
        Due.due("way(0) with a fault", Due.way(x, 0, "test 1; x"), -1);
        Due.due("way(0) behind a fault", Due.way(x, 0, "test 1;"), 1);
    }

    /** "the first come to as TOKENS are read one by one". */
    private static void firstFaultComeTo() {
        bad("x; hot 51; hot 5;", 1, 0);
        bad("hot 51; x; every 4;", 2, 4);
        bad("hot 5; hot 51; x;", 3, 7);
        bad("every 4; x", 1, 9);
        bad("every 4; hot 51;", 2, 13);
        bad("every 4; every 5;", 3, 9);
        bad("every 4; hot 5", 1, 14);
        bad("hot 51 51", 2, 4);
        bad("hot 51", 2, 4);
    }

    /** "of one TOKEN the least KIND". */
    private static void leastKindOfOneToken() {
        // A number with which no text goes on, that is out of bounds too.
        bad("hot 5 999;", 1, 6);
        bad("hot 1000;", 1, 4);
        // A word that was told already, where no word is due.
        bad("hot 5 hot 5;", 1, 6);
        bad("hot 5; test hot;", 1, 12);
        // The end within a line, with ahead not below every.
        bad("every 4;hot", 1, 11);
        bad("every 4;hot 5", 1, 13);
        bad("every 4", 1, 7);
    }

    /** "how many lines": none of an empty text, eight at most. */
    private static void linesFromNoneToAll() {
        String text = "";
        good(text, 0);
        for (int r = 0; r < WORDS.length; r++) {
            text += WORDS[r] + " " + (9 - r) + ";";
            good(text, r + 1);
        }
        good(text + "pick none;", 8);
        good("pick none;" + text, 8);
        bad(text + "pick none;hot 5;", 3, text.length() + 10);
    }

    /** "0 without (and ahead of any)", "its PLACE (NONE)", "NONE for another what." */
    private static void faultAheadOfAny() {
        BranchPlay x = new BranchPlay();
        Due.due("fault(0) ahead of any", x.fault(0), 0);
        Due.due("fault(1) ahead of any", x.fault(1), -1);
        Due.way(x, 4, "x");
        Due.due("fault(0) behind RANGE alone", x.fault(0), 0);
        Due.due("fault(1) behind RANGE alone", x.fault(1), -1);
        for (int round = 0; round < 2; round++) {
            for (int what : new int[] {-1, 2, 3, MIN, MAX}) {
                Due.due("fault(" + what + ")", x.fault(what), -1);
            }
            Due.way(x, 0, "hot x");
        }
    }

    /** "Of the latest way() that was not RANGE". */
    private static void faultOfTheLatest() {
        BranchPlay x = new BranchPlay();
        String[] texts = {"x", "hot 51;", "", "hot 5;hot 5;", "test 2;", "every 4;"};
        int[] kinds = {1, 2, 0, 3, 0, 4};
        int[] places = {0, 4, -1, 6, -1, 8};
        for (int i = 0; i < texts.length; i++) {
            Due.way(x, i % 4, texts[i]);
            for (int refused = 0; refused < 3; refused++) {
                Due.due("fault(0) of <" + texts[i] + ">", x.fault(0), kinds[i]);
                Due.due("fault(1) of <" + texts[i] + ">", x.fault(1), places[i]);
                Due.way(x, refused == 0 ? -1 : 4, refused == 0 ? "hot" : "test 3;");
            }
        }
    }

    /** "hot (NONE)", "-9 when there is none such." */
    private static void ruleOfNone() {
        BranchPlay x = full();
        for (int w : new int[] {-1, 4, MIN, MAX}) {
            for (int what : new int[] {-1, 0, 7, 8}) {
                Due.due("rule(" + w + ", " + what + ")", x.rule(w, what), -9);
            }
        }
        for (int w = 0; w < 4; w++) {
            for (int what : new int[] {-1, 8, 9, MIN, MAX}) {
                Due.due("rule(" + w + ", " + what + ")", x.rule(w, what), -9);
            }
            Due.due("rule(" + w + ", 6)", x.rule(w, 6), w == 0 ? 3 : -1);
        }
        Due.due("rule(0, 0)", x.rule(0, 0), 9);
        Due.due("rule(0, 7)", x.rule(0, 7), 2);
        Due.due("rule(3, 0)", x.rule(3, 0), 50);
        Due.due("rule(3, 7)", x.rule(3, 7), 0);
    }
}
