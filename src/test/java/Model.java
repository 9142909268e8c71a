import java.util.ArrayList;
import java.util.Arrays;
import java.util.Comparator;
import java.util.List;
import java.util.Set;
import java.util.TreeMap;
import java.util.TreeSet;
import java.util.regex.Matcher;
import java.util.regex.Pattern;

/** The document a second time, plainly and slowly, with the library's sets, sorts and patterns. */
final class Model {
    static final String[] WORDS = {"every", "ahead", "test", "queue", "freeze", "rework", "hot", "pick"};
    static final List<String> PICKS = List.of("none", "fixes", "all");
    static final int[] LOW = {2, 1, 0, 1, 0, 0, 1};
    static final int[] HIGH = {100, 50, 50, 9, 50, 9, 50};
    static final int[] USUAL = {20, 4, 2, 3, 0, 1, -1, 1};

    static final class Change {
        int birth;
        int regions;
        int size;
        int breaks;
        int fixOf = -1;
        int fixedBy = -1;
        final List<Integer> hangs = new ArrayList<>();
    }

    static final class Release {
        int tick;
        boolean hot;
        Set<Integer> has = new TreeSet<>();
        int held;
    }

    final StringBuilder tape = new StringBuilder();
    final int[][] ways = {USUAL.clone(), USUAL.clone(), USUAL.clone(), USUAL.clone()};
    final List<Change> changes = new ArrayList<>();
    int kind = 0;
    int place = -1;
    int[] prices = {1, 100, 2, 50};
    int played = -1;
    Played latest;

    int feed(int... ints) {
        if (tape.length() + 20 > 600) {
            return -3;
        }
        for (int four : ints) {
            for (int k = 3; k >= 0; k--) {
                tape.append((char) (four >> 8 * k & 255));
            }
        }
        return tape.length();
    }

    int end(int n) {
        if (n < 0 || n > tape.length()) {
            return -1;
        }
        tape.setLength(n);
        return n;
    }

    int way(int w) {
        String text = tape.toString();
        tape.setLength(0);
        if (w < 0 || w > 3) {
            return -2;
        }
        int[] rules = USUAL.clone();
        int lines = parse(text, rules);
        if (kind != 0) {
            return -1;
        }
        ways[w] = rules;
        played = -1;
        return lines;
    }

    /** Cuts the text into tokens first, then holds each against what its place in a line asks. */
    private int parse(String text, int[] rules) {
        kind = 0;
        place = -1;
        Matcher tokens = Pattern.compile("[a-z]+|[0-9]+|[^ \n]", Pattern.DOTALL).matcher(text);
        Set<String> seen = new TreeSet<>();
        String word = "";
        int turn = 0;
        while (tokens.find()) {
            String token = tokens.group();
            int fault = 0;
            if (turn % 3 == 0) {
                fault = !Arrays.asList(WORDS).contains(token) ? 1 : !seen.add(token) ? 3 : 0;
                word = token;
            } else if (turn % 3 == 2) {
                fault = token.equals(";") ? 0 : 1;
            } else if (word.equals("pick")) {
                fault = PICKS.contains(token) ? 0 : 1;
                rules[7] = PICKS.indexOf(token);
            } else {
                int r = Arrays.asList(WORDS).indexOf(word);
                fault = !token.matches("[0-9]{1,3}") ? 1
                    : Integer.parseInt(token) < LOW[r] || Integer.parseInt(token) > HIGH[r] ? 2 : 0;
                rules[r] = fault == 0 ? Integer.parseInt(token) : 0;
            }
            if (fault != 0) {
                kind = fault;
                place = tokens.start();
                return -1;
            }
            turn++;
        }
        kind = turn % 3 != 0 ? 1 : rules[1] >= rules[0] ? 4 : 0;
        place = kind == 0 ? -1 : text.length();
        return turn / 3;
    }

    int fault(int what) {
        return what == 0 ? kind : what == 1 ? place : -1;
    }

    int rule(int w, int what) {
        return w < 0 || w > 3 || what < 0 || what > 7 ? -9 : ways[w][what];
    }

    int change(int birth, int regions, int size, int breaks) {
        if (birth < 0 || birth > 399 || regions <= 0 || regions >= 1 << 30 || size < 1 || size > 20
            || breaks < -1 || breaks == 0 || breaks > 100) {
            return -2;
        }
        if (changes.size() == 60) {
            return -3;
        }
        Change c = new Change();
        c.birth = birth;
        c.regions = regions;
        c.size = size;
        c.breaks = breaks;
        changes.add(c);
        played = -1;
        return changes.size() - 1;
    }

    private boolean pair(int c, int lesser) {
        return c >= 0 && c < changes.size() && lesser >= 0 && lesser < c;
    }

    int hang(int c, int on) {
        if (!pair(c, on)) {
            return -2;
        }
        List<Integer> hangs = changes.get(c).hangs;
        if (hangs.contains(on)) {
            return hangs.size();
        }
        if (hangs.size() == 3) {
            return -3;
        }
        hangs.add(on);
        played = -1;
        return hangs.size();
    }

    int fix(int c, int of) {
        if (!pair(c, of) || changes.get(of).breaks == -1 || changes.get(of).fixedBy != -1
            || changes.get(c).fixOf != -1) {
            return -2;
        }
        changes.get(c).fixOf = of;
        changes.get(of).fixedBy = c;
        played = -1;
        return 1;
    }

    int about(int c, int what) {
        if (c < 0 || c >= changes.size()) {
            return -9;
        }
        Change x = changes.get(c);
        int[] row = {x.birth, x.regions, x.size, x.breaks, x.fixOf, x.fixedBy, x.hangs.size()};
        if (what >= 0 && what < 7) {
            return row[what];
        }
        return what >= 10 && what < 10 + x.hangs.size() ? x.hangs.get(what - 10) : -9;
    }

    int play(int w) {
        if (w < 0 || w > 3) {
            return -2;
        }
        latest = new Played(ways[w]);
        played = w;
        return latest.releases.size();
    }

    int told(int c, int what) {
        return played < 0 || c < 0 || c >= changes.size() || what < 0 || what > 6 ? -9 : latest.told[c][what];
    }

    int release(int i, int what) {
        if (played < 0 || i < 0 || i >= latest.releases.size() || what < 0 || what > 3) {
            return -9;
        }
        Release r = latest.releases.get(i);
        return new int[] {r.tick, r.hot ? 1 : 0, r.has.size(), r.held}[what];
    }

    long has(int i) {
        if (played < 0 || i < 0 || i >= latest.releases.size()) {
            return -9;
        }
        return latest.releases.get(i).has.stream().mapToLong(c -> 1L << c).sum();
    }

    int sum(int what) {
        return played < 0 || what < 0 || what > 7 ? -9 : latest.sums()[what];
    }

    int parts(int w, int v) {
        if (w < 0 || w > 3 || v < 0 || v > 3) {
            return -2;
        }
        Played one = new Played(ways[w]);
        Played other = new Played(ways[v]);
        for (int t = 0; t < 400; t++) {
            if (!one.states.get(t).equals(other.states.get(t))) {
                return t;
            }
        }
        return -1;
    }

    int prices(int... p) {
        if (Arrays.stream(p).anyMatch(x -> x < 0 || x > 1000)) {
            return -2;
        }
        prices = p.clone();
        return 1;
    }

    private int price(Played p) {
        int[] s = p.sums();
        return prices[0] * s[0] + prices[1] * s[3] + prices[2] * s[5] + prices[3] * s[2];
    }

    int costs(int w) {
        return w < 0 || w > 3 ? -2 : price(new Played(ways[w]));
    }

    int best(int w, int rule, int low, int high) {
        if (w < 0 || w > 3 || rule < 0 || rule > 5 || Math.min(low, high) < LOW[rule]
            || Math.max(low, high) > HIGH[rule] || high - low + 1 > 30) {
            return -2;
        }
        TreeMap<Integer, Integer> leastOfPrice = new TreeMap<>();
        for (int n = high; n >= low; n--) {
            int[] rules = ways[w].clone();
            rules[rule] = n;
            if (rules[1] < rules[0]) {
                leastOfPrice.put(price(new Played(rules)), n);
            }
        }
        return leastOfPrice.isEmpty() ? -1 : leastOfPrice.firstEntry().getValue();
    }

    int count(int what) {
        return what == 0 ? changes.size() : what == 1 ? tape.length() : what == 2 ? played : -1;
    }

    /** One way, played. */
    final class Played {
        final int[] rules;
        final int n = changes.size();
        final int[][] told = new int[n][7];
        final List<Release> releases = new ArrayList<>();
        final List<List<Set<Integer>>> states = new ArrayList<>();
        final Set<Integer> trunk = new TreeSet<>();
        final List<Set<Integer>> bases = new ArrayList<>();
        final int[] ready = new int[n];
        Set<Integer> outNow = new TreeSet<>();
        Set<Integer> branch = new TreeSet<>();
        boolean open = false;
        int mostWaiting = 0;

        Played(int[] rules) {
            this.rules = rules;
            for (int c = 0; c < n; c++) {
                Arrays.fill(told[c], 0, 4, -1);
                bases.add(null);
            }
            for (int t = 0; t < 400; t++) {
                tick(t);
                states.add(List.of(new TreeSet<>(trunk), new TreeSet<>(outNow)));
            }
        }

        boolean isRelease(int t) {
            return t > 0 && t <= 399 && t % rules[0] == 0;
        }

        boolean isCut(int t) {
            return isRelease(t + rules[1]);
        }

        boolean isFrozen(int t) {
            for (int later = t + 1; later <= t + rules[4]; later++) {
                if (isCut(later) && !isCut(t)) {
                    return true;
                }
            }
            return false;
        }

        void tick(int t) {
            if (isRelease(t)) {
                releaseBranch(t);
            }
            if (rules[6] != -1) {
                releaseHot(t);
            }
            Set<Integer> born = new TreeSet<>();
            for (int c = 0; c < n; c++) {
                Change x = changes.get(c);
                boolean mended = x.fixedBy != -1 && outNow.contains(x.fixedBy);
                if (x.breaks != -1 && outNow.contains(c) && told[c][2] + x.breaks == t && !mended) {
                    told[c][3] = t;
                    born.add(x.fixedBy);
                }
            }
            born.remove(-1);
            for (int c = 0; c < n; c++) {
                if (changes.get(c).fixOf == -1 && changes.get(c).birth == t) {
                    born.add(c);
                }
            }
            for (int c : born) {
                told[c][0] = t;
                ready[c] = t + changes.get(c).size;
                bases.set(c, new TreeSet<>(trunk));
            }
            merges(t);
            if (isCut(t)) {
                branch = new TreeSet<>(trunk);
                open = true;
            }
            int waiting = 0;
            for (int c = 0; c < n; c++) {
                waiting += told[c][0] != -1 && told[c][1] == -1 ? 1 : 0;
            }
            mostWaiting = Math.max(mostWaiting, waiting);
        }

        void releaseBranch(int t) {
            Release r = new Release();
            r.tick = t;
            for (int c : branch) {
                if (t - told[c][1] >= rules[2] && r.has.containsAll(changes.get(c).hangs)) {
                    r.has.add(c);
                } else {
                    r.held++;
                    told[c][6]++;
                }
            }
            open = false;
            out(r);
        }

        void releaseHot(int t) {
            for (int c = 0; c < n; c++) {
                Change x = changes.get(c);
                if (x.fixOf != -1 && told[c][1] != -1 && told[c][1] + rules[6] == t
                    && outNow.contains(x.fixOf) && !outNow.contains(c)) {
                    Release r = new Release();
                    r.tick = t;
                    r.hot = true;
                    r.has.addAll(outNow);
                    r.has.add(c);
                    out(r);
                }
            }
        }

        void out(Release r) {
            releases.add(r);
            outNow = r.has;
            for (int c : r.has) {
                told[c][2] = told[c][2] == -1 ? r.tick : told[c][2];
            }
        }

        void merges(int t) {
            List<Integer> order = new ArrayList<>();
            for (int c = 0; c < n; c++) {
                if (told[c][0] != -1 && told[c][1] == -1 && ready[c] <= t) {
                    order.add(c);
                }
            }
            order.sort(Comparator.<Integer>comparingInt(c -> changes.get(c).fixOf != -1 ? 0 : 1)
                .thenComparingInt(c -> ready[c]).thenComparingInt(c -> c));
            int merged = 0;
            for (int c : order) {
                Change x = changes.get(c);
                if (merged == rules[3]) {
                    break;
                }
                if (!trunk.containsAll(x.hangs) || x.fixOf == -1 && isFrozen(t)) {
                    continue;
                }
                Set<Integer> behind = new TreeSet<>(trunk);
                behind.removeAll(bases.get(c));
                int regions = 0;
                for (int region = 0; region < 30; region++) {
                    int bit = 1 << region;
                    if ((x.regions & bit) != 0
                        && behind.stream().anyMatch(b -> (changes.get(b).regions & bit) != 0)) {
                        regions++;
                    }
                }
                if (rules[5] > 0 && regions > 0) {
                    told[c][4]++;
                    told[c][5] += regions * rules[5];
                    ready[c] = t + regions * rules[5];
                    bases.set(c, new TreeSet<>(trunk));
                } else {
                    told[c][1] = t;
                    trunk.add(c);
                    merged++;
                    if (open && (rules[7] == 2 || rules[7] == 1 && x.fixOf != -1)) {
                        branch.add(c);
                    }
                }
            }
        }

        int[] sums() {
            int[] s = new int[8];
            for (int c = 0; c < n; c++) {
                if (told[c][2] != -1) {
                    s[0] += told[c][2] - told[c][0];
                    s[1] = Math.max(s[1], told[c][2] - told[c][0]);
                } else if (told[c][0] != -1) {
                    s[2]++;
                }
                s[3] += told[c][3] != -1 ? 1 : 0;
                s[4] += told[c][4];
                s[5] += told[c][5] + (told[c][0] != -1 ? changes.get(c).size : 0);
                s[6] += told[c][6];
            }
            s[7] = mostWaiting;
            return s;
        }
    }
}
