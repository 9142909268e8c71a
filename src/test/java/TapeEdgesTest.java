import java.util.Arrays;

/** The edges that the document names for a new object and for the tape, a sentence each: promises 1 to 3. */
public final class TapeEdgesTest {
    private static final int MIN = Integer.MIN_VALUE;
    private static final int MAX = Integer.MAX_VALUE;

    public static void main(String[] args) {
        noChangesAtFirst();
        nothingOfOtherObjects();
        emptyTape();
        sixHundredBytes();
        fullFeedLeavesTheTape();
        highestByteFirst();
        endAtItsEdges();
        refusedEndLeavesTheTape();
        feedBehindAnEnd();
        Due.finish();
    }

    private static BranchPlay withBytes(int many) {
        BranchPlay x = new BranchPlay();
        Due.put(x, " ".repeat(many));
        Due.due("count(1) of " + many + " bytes", x.count(1), many);
        return x;
    }

    /** "No CHANGES." */
    private static void noChangesAtFirst() {
        BranchPlay x = new BranchPlay();
        Due.due("new: count(0)", x.count(0), 0);
        for (int what = 0; what < 14; what++) {
            Due.due("new: about(0, " + what + ")", x.about(0, what), -9);
        }
        Due.due("new: hang(0, 0)", x.hang(0, 0), -2);
        Due.due("new: hang(1, 0)", x.hang(1, 0), -2);
        Due.due("new: fix(1, 0)", x.fix(1, 0), -2);
        Due.due("new: play(0)", x.play(0), 19);
        for (int i = 0; i < 19; i++) {
            Due.due("new: has(" + i + ")", x.has(i), 0);
            Due.due("new: release(" + i + ", 2)", x.release(i, 2), 0);
            Due.due("new: release(" + i + ", 3)", x.release(i, 3), 0);
        }
        for (int what = 0; what < 8; what++) {
            Due.due("new: sum(" + what + ")", x.sum(what), 0);
        }
        Due.due("new: told(0, 0)", x.told(0, 0), -9);
        Due.due("new: costs(3)", x.costs(3), 0);
        Due.due("new: parts(1, 2)", x.parts(1, 2), -1);
        Due.due("new: the first change", x.change(0, 1, 1, -1), 0);
    }

    /** "A new object": what was told to another is not its own. */
    private static void nothingOfOtherObjects() {
        BranchPlay other = new BranchPlay();
        Due.way(other, 2, "test 9;");
        other.prices(7, 7, 7, 7);
        other.change(0, 1, 1, 5);
        other.change(0, 1, 1, -1);
        other.fix(1, 0);
        other.play(2);
        Due.put(other, "every 1;");
        BranchPlay x = new BranchPlay();
        String counts = "counts 0 0 -1, fault 0 -1";
        Due.due("new beside another: " + counts, Seen.of(x).startsWith(counts) ? 1 : 0, 1);
        Due.due("new beside another: rule(2, 2)", x.rule(2, 2), 2);
        Due.due("new beside another: way(2)", x.way(2), 0);
        x.change(0, 1, 1, -1);
        Due.due("new beside another: costs(2)", x.costs(2), 20 + 2);
        Due.due("another: count(0)", other.count(0), 2);
        Due.due("another: count(1)", other.count(1), 8);
    }

    /** "how many it has", of an empty tape: none, and twenty behind the first feed(). */
    private static void emptyTape() {
        BranchPlay x = new BranchPlay();
        Due.due("empty: count(1)", x.count(1), 0);
        Due.due("empty: way(0)", x.way(0), 0);
        Due.due("empty: feed", x.feed(0, 0, 0, 0, 0), 20);
        Due.due("empty: count(1) behind feed", x.count(1), 20);
    }

    /** "FULL when there would be more than 600." */
    private static void sixHundredBytes() {
        BranchPlay x = new BranchPlay();
        for (int i = 1; i <= 30; i++) {
            Due.due("feed " + i, x.feed(i, i, i, i, i), 20 * i);
        }
        Due.due("feed 31", x.feed(31, 31, 31, 31, 31), -3);
        for (int many = 560; many <= 600; many++) {
            BranchPlay y = withBytes(many);
            Due.due("feed behind " + many, y.feed(0, 0, 0, 0, 0), many <= 580 ? many + 20 : -3);
            Due.due("count(1) behind feed", y.count(1), many <= 580 ? many + 20 : many);
        }
        // It is the bytes on the tape that count, not those that were ever fed.
        Due.due("end(0) of a full tape", x.end(0), 0);
        Due.due("feed behind end(0)", x.feed(0, 0, 0, 0, 0), 20);
    }

    /** "FULL": no byte of it is on the tape. */
    private static void fullFeedLeavesTheTape() {
        for (int many = 581; many <= 600; many++) {
            BranchPlay x = new BranchPlay();
            Due.put(x, "test 7;" + " ".repeat(many - 7));
            x.play(0);
            String ahead = Seen.of(x);
            Due.due("feed behind " + many, x.feed(-1, -1, -1, -1, -1), -3);
            Seen.same("feed behind " + many, ahead, x);
            Due.due("way(1) of " + many, x.way(1), 1);
            Due.due("rule(1, 2) of " + many, x.rule(1, 2), 7);
        }
    }

    /** "the highest of each int first": of each place that a byte has, in each of the five ints. */
    private static void highestByteFirst() {
        for (int place = 0; place < 20; place++) {
            for (int strange : new int[] {0, 127, 128, 255}) {
                int[] ints = new int[5];
                Arrays.fill(ints, 0x20202020);
                int shift = 24 - 8 * (place % 4);
                ints[place / 4] = ints[place / 4] & ~(255 << shift) | strange << shift;
                BranchPlay x = new BranchPlay();
                x.feed(ints[0], ints[1], ints[2], ints[3], ints[4]);
                Due.due("way(0) of byte " + strange + " at " + place, x.way(0), -1);
                Due.due("fault(0) of byte " + strange + " at " + place, x.fault(0), 1);
                Due.due("fault(1) of byte " + strange + " at " + place, x.fault(1), place);
            }
        }
    }

    /** "its first n bytes alone: n; NONE when it has not so many, or n is below 0." */
    private static void endAtItsEdges() {
        for (int many : new int[] {0, 1, 19, 20, 21, 599, 600}) {
            BranchPlay x = withBytes(many);
            Due.due("end(" + (many + 1) + ") of " + many, x.end(many + 1), -1);
            Due.due("end(601) of " + many, x.end(601), -1);
            Due.due("end(max) of " + many, x.end(MAX), -1);
            Due.due("end(-1) of " + many, x.end(-1), -1);
            Due.due("end(min) of " + many, x.end(MIN), -1);
            Due.due("end(" + many + ") of as many", x.end(many), many);
            if (many > 0) {
                Due.due("end(" + (many - 1) + ") of " + many, x.end(many - 1), many - 1);
                Due.due("count(1) then", x.count(1), many - 1);
                Due.due("end(" + many + ") then", x.end(many), -1);
            }
            Due.due("end(0)", x.end(0), 0);
            Due.due("count(1) behind end(0)", x.count(1), 0);
            Due.due("end(1) of none", x.end(1), -1);
        }
    }

    /** "NONE": the tape has what it had. */
    private static void refusedEndLeavesTheTape() {
        for (int n : new int[] {-1, 8, 9, 600, 601, MIN, MAX}) {
            BranchPlay x = new BranchPlay();
            Due.put(x, "test 7;");
            x.play(0);
            String ahead = Seen.of(x);
            Due.due("end(" + n + ") of 7", x.end(n), -1);
            Seen.same("end(" + n + ")", ahead, x);
            Due.due("way(1) behind end(" + n + ")", x.way(1), 1);
            Due.due("rule(1, 2) behind end(" + n + ")", x.rule(1, 2), 7);
        }
    }

    /** "come behind THE TAPE": behind the n bytes, in the stead of those that end() cut off. */
    private static void feedBehindAnEnd() {
        BranchPlay x = new BranchPlay();
        Due.put(x, "hot 5;every 1;xxxxxx");
        Due.due("end(6)", x.end(6), 6);
        // "tes", "t 9;" and blanks.
        Due.due("feed at 6", x.feed(0x74657374, 0x20393b20, 0x20202020, 0x20202020, 0x20202020), 26);
        Due.due("way(0)", x.way(0), 2);
        Due.due("rule(0, 6)", x.rule(0, 6), 5);
        Due.due("rule(0, 2)", x.rule(0, 2), 9);
        Due.due("rule(0, 0)", x.rule(0, 0), 20);
    }
}
