/** All that an object shows, as one text: so that a refused call is seen to leave it as it was. */
final class Seen {
    private Seen() {
    }

    /** The tape's length is seen too, its bytes are not: way() would empty it. */
    static String of(BranchPlay x) {
        StringBuilder seen = new StringBuilder("counts");
        for (int what = 0; what < 3; what++) {
            seen.append(' ').append(x.count(what));
        }
        seen.append(", fault ").append(x.fault(0)).append(' ').append(x.fault(1));
        told(x, seen);
        played(x, seen);
        seen.append(", costs");
        for (int w = 0; w < 4; w++) {
            seen.append(' ').append(x.costs(w));
        }
        return seen.toString();
    }

    /** Seen ahead of the call and behind it must be the same. */
    static void same(String call, String ahead, BranchPlay x) {
        String behind = of(x);
        if (!behind.equals(ahead)) {
            System.out.println("ahead:  " + ahead + "\nbehind: " + behind);
        }
        Due.due(call + " leaves all as it was", behind.equals(ahead) ? 1 : 0, 1);
    }

    private static void told(BranchPlay x, StringBuilder seen) {
        for (int w = 0; w < 4; w++) {
            seen.append(", way ").append(w).append(':');
            for (int what = 0; what < 8; what++) {
                seen.append(' ').append(x.rule(w, what));
            }
        }
        for (int c = 0; c < x.count(0); c++) {
            seen.append(", change ").append(c).append(':');
            for (int what = 0; what < 14; what++) {
                seen.append(' ').append(x.about(c, what));
            }
        }
    }

    private static void played(BranchPlay x, StringBuilder seen) {
        for (int c = 0; c < x.count(0); c++) {
            seen.append(", told ").append(c).append(':');
            for (int what = 0; what < 7; what++) {
                seen.append(' ').append(x.told(c, what));
            }
        }
        for (int i = 0; x.release(i, 0) != -9; i++) {
            seen.append(", release ").append(i).append(':');
            for (int what = 0; what < 4; what++) {
                seen.append(' ').append(x.release(i, what));
            }
            seen.append(" has ").append(x.has(i));
        }
        seen.append(", sums");
        for (int what = 0; what < 8; what++) {
            seen.append(' ').append(x.sum(what));
        }
    }
}
