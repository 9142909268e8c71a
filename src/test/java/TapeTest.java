/** Promises 1 to 3: a new object, feed, end. */
public final class TapeTest {
    public static void main(String[] args) {
        newObject();
        feeding();
        ending();
        byteOrder();
        Due.finish();
    }

    private static void newObject() {
        BranchPlay x = new BranchPlay();
        Due.due("new: count(0)", x.count(0), 0);
        Due.due("new: count(1)", x.count(1), 0);
        Due.due("new: count(2)", x.count(2), -1);
        Due.due("new: fault(0)", x.fault(0), 0);
        Due.due("new: fault(1)", x.fault(1), -1);
        Due.due("new: about(0, 0)", x.about(0, 0), -9);
        Due.due("new: told(0, 0)", x.told(0, 0), -9);
        Due.due("new: release(0, 0)", x.release(0, 0), -9);
        Due.due("new: has(0)", x.has(0), -9);
        Due.due("new: sum(0)", x.sum(0), -9);
        int[] usual = {20, 4, 2, 3, 0, 1, -1, 1};
        for (int w = 0; w < 4; w++) {
            for (int what = 0; what < 8; what++) {
                Due.due("new: rule(" + w + ", " + what + ")", x.rule(w, what), usual[what]);
            }
        }
        Due.due("new: play(0)", x.play(0), 19);
        Due.due("new: costs(0)", x.costs(0), 0);
    }

    private static void feeding() {
        BranchPlay x = new BranchPlay();
        for (int i = 1; i <= 30; i++) {
            Due.due("feed " + i, x.feed(0, -1, 7, 8, 9), 20 * i);
        }
        Due.due("feed 31", x.feed(0, 0, 0, 0, 0), -3);
        Due.due("count(1) behind FULL", x.count(1), 600);
        Due.due("end(581)", x.end(581), 581);
        Due.due("feed at 581", x.feed(0, 0, 0, 0, 0), -3);
        Due.due("count(1) at 581", x.count(1), 581);
        Due.due("end(580)", x.end(580), 580);
        Due.due("feed at 580", x.feed(0, 0, 0, 0, 0), 600);
    }

    private static void ending() {
        BranchPlay x = new BranchPlay();
        Due.due("end(0) of none", x.end(0), 0);
        Due.due("end(1) of none", x.end(1), -1);
        x.feed(1, 2, 3, 4, 5);
        Due.due("end(21)", x.end(21), -1);
        Due.due("end(-1)", x.end(-1), -1);
        Due.due("end(min)", x.end(Integer.MIN_VALUE), -1);
        Due.due("end(max)", x.end(Integer.MAX_VALUE), -1);
        Due.due("count(1) behind NONE", x.count(1), 20);
        Due.due("end(20)", x.end(20), 20);
        Due.due("end(7)", x.end(7), 7);
        Due.due("end(8)", x.end(8), -1);
        Due.due("feed at 7", x.feed(1, 2, 3, 4, 5), 27);
    }

    private static void byteOrder() {
        BranchPlay x = new BranchPlay();
        // "quer", "y 5;" is no line, "queu", "e 5;" is one: each int's highest byte comes first.
        x.feed(0x71756575, 0x6520353b, 0x0a202020, 0x74657374, 0x2037203b);
        Due.due("way(2) of five ints", x.way(2), 2);
        Due.due("rule(2, 3)", x.rule(2, 3), 5);
        Due.due("rule(2, 2)", x.rule(2, 2), 7);
        x.feed(0x71756575, 0x6520353b, 0x20202020, 0x20202020, 0x2020ff20);
        Due.due("way(2) with a byte 255", x.way(2), -1);
        Due.due("fault(0)", x.fault(0), 1);
        Due.due("fault(1)", x.fault(1), 18);
    }
}
