/** Promises 7 to 10: change, hang, fix, about. */
public final class ChangeTest {
    public static void main(String[] args) {
        bounds();
        sixty();
        hanging();
        fixing();
        telling();
        Due.finish();
    }

    private static void bounds() {
        BranchPlay x = new BranchPlay();
        int max = Integer.MAX_VALUE;
        int min = Integer.MIN_VALUE;
        int[][] wrong = {
            {-1, 1, 1, -1}, {400, 1, 1, -1}, {max, 1, 1, -1}, {min, 1, 1, -1},
            {0, 0, 1, -1}, {0, 1 << 30, 1, -1}, {0, -1, 1, -1}, {0, min, 1, -1}, {0, max, 1, -1},
            {0, 1, 0, -1}, {0, 1, 21, -1}, {0, 1, -1, -1}, {0, 1, max, -1},
            {0, 1, 1, 0}, {0, 1, 1, -2}, {0, 1, 1, 101}, {0, 1, 1, min}};
        for (int[] a : wrong) {
            Due.due("change(" + a[0] + ", " + a[1] + ", " + a[2] + ", " + a[3] + ")",
                x.change(a[0], a[1], a[2], a[3]), -2);
        }
        Due.due("count(0) behind RANGE", x.count(0), 0);
        Due.due("the least", x.change(0, 1, 1, 1), 0);
        Due.due("the most", x.change(399, (1 << 30) - 1, 20, 100), 1);
        Due.due("no break", x.change(7, 1 << 29, 5, -1), 2);
        Due.due("count(0)", x.count(0), 3);
    }

    private static void sixty() {
        BranchPlay x = new BranchPlay();
        for (int c = 0; c < 60; c++) {
            Due.due("change " + c, x.change(c, c + 1, 1 + c % 20, -1), c);
        }
        Due.due("change 60", x.change(0, 1, 1, -1), -3);
        Due.due("wrong change 60", x.change(0, 0, 1, -1), -2);
        Due.due("count(0) behind FULL", x.count(0), 60);
        Due.due("about(59, 1)", x.about(59, 1), 60);
        Due.due("about(60, 1)", x.about(60, 1), -9);
    }

    private static void hanging() {
        BranchPlay x = new BranchPlay();
        for (int c = 0; c < 6; c++) {
            x.change(0, 1, 1, -1);
        }
        int[][] wrong = {{0, 0}, {2, 2}, {2, 3}, {2, -1}, {6, 0}, {-1, -2}, {-1, 0},
            {Integer.MAX_VALUE, 0}, {3, Integer.MIN_VALUE}, {60, 59}};
        for (int[] a : wrong) {
            Due.due("hang(" + a[0] + ", " + a[1] + ")", x.hang(a[0], a[1]), -2);
        }
        Due.due("hang(5, 3)", x.hang(5, 3), 1);
        Due.due("hang(5, 0)", x.hang(5, 0), 2);
        Due.due("hang(5, 3) again", x.hang(5, 3), 2);
        Due.due("hang(5, 4)", x.hang(5, 4), 3);
        Due.due("hang(5, 1), a fourth", x.hang(5, 1), -3);
        Due.due("hang(5, 0) again", x.hang(5, 0), 3);
        Due.due("hang(5, 5)", x.hang(5, 5), -2);
        Due.due("about(5, 6)", x.about(5, 6), 3);
        Due.due("about(5, 10)", x.about(5, 10), 3);
        Due.due("about(5, 11)", x.about(5, 11), 0);
        Due.due("about(5, 12)", x.about(5, 12), 4);
        Due.due("about(5, 13)", x.about(5, 13), -9);
        Due.due("about(4, 6)", x.about(4, 6), 0);
        Due.due("about(4, 10)", x.about(4, 10), -9);
        Due.due("hang(4, 1)", x.hang(4, 1), 1);
        Due.due("about(4, 11)", x.about(4, 11), -9);
    }

    private static void fixing() {
        BranchPlay x = new BranchPlay();
        x.change(0, 1, 1, 5);
        x.change(0, 1, 1, -1);
        x.change(0, 1, 1, 6);
        x.change(0, 1, 1, 7);
        x.change(0, 1, 1, -1);
        Due.due("fix(2, 1): no break", x.fix(2, 1), -2);
        Due.due("fix(0, 0)", x.fix(0, 0), -2);
        Due.due("fix(2, 3): greater", x.fix(2, 3), -2);
        Due.due("fix(5, 0): no such", x.fix(5, 0), -2);
        Due.due("fix(2, -1): no such", x.fix(2, -1), -2);
        Due.due("fix(-1, 0): no such", x.fix(-1, 0), -2);
        Due.due("fix(max, 0): no such", x.fix(Integer.MAX_VALUE, 0), -2);
        Due.due("fix(2, min): no such", x.fix(2, Integer.MIN_VALUE), -2);
        Due.due("fix(2, 0)", x.fix(2, 0), 1);
        Due.due("fix(2, 0) again", x.fix(2, 0), -2);
        Due.due("fix(3, 0): it has one", x.fix(3, 0), -2);
        Due.due("fix(3, 2): of a fix", x.fix(3, 2), 1);
        Due.due("fix(3, 0): one already", x.fix(3, 0), -2);
        Due.due("fix(4, 3)", x.fix(4, 3), 1);
        int[] of = {-1, -1, 0, 2, 3};
        int[] by = {2, -1, 3, 4, -1};
        for (int c = 0; c < 5; c++) {
            Due.due("about(" + c + ", 4)", x.about(c, 4), of[c]);
            Due.due("about(" + c + ", 5)", x.about(c, 5), by[c]);
        }
    }

    private static void telling() {
        BranchPlay x = new BranchPlay();
        x.change(17, 0x2000_0003, 19, 88);
        x.change(0, 9, 4, -1);
        int[] first = {17, 0x2000_0003, 19, 88, -1, -1, 0, -9, -9, -9, -9};
        int[] second = {0, 9, 4, -1, -1, -1, 0, -9, -9, -9, -9};
        for (int what = 0; what < first.length; what++) {
            Due.due("about(0, " + what + ")", x.about(0, what), first[what]);
            Due.due("about(1, " + what + ")", x.about(1, what), second[what]);
        }
        int[] none = {-1, 2, 60, Integer.MAX_VALUE, Integer.MIN_VALUE};
        for (int n : none) {
            Due.due("about(" + n + ", 0)", x.about(n, 0), -9);
        }
        Due.due("about(0, -1)", x.about(0, -1), -9);
        Due.due("about(0, max)", x.about(0, Integer.MAX_VALUE), -9);
        Due.due("about(0, min)", x.about(0, Integer.MIN_VALUE), -9);
    }
}
