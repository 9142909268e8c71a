import java.util.Random;

/** Every call against the model, over runs whose seeds are set: ordinary, edge and wild arguments. */
public final class ModelTest {
    private static final int RUNS = 400;
    private static final int[] WILD = {Integer.MIN_VALUE, -1000, -10, -9, -3, -2, -1, 0, 1, 2, 3, 4, 5,
        7, 8, 9, 10, 13, 19, 20, 21, 29, 30, 31, 50, 51, 59, 60, 61, 100, 101, 399, 400, 600, 1000, 1001,
        1 << 29, 1 << 30, Integer.MAX_VALUE};

    private final Random random;
    private final int run;
    private final BranchPlay x = new BranchPlay();
    private final Model m = new Model();

    private ModelTest(int run) {
        this.run = run;
        // Seeds that lie near one another would all begin alike.
        random = new Random(run * 0x9E3779B97F4A7C15L);
    }

    public static void main(String[] args) {
        for (int run = 0; run < RUNS; run++) {
            new ModelTest(run).play();
        }
        Due.finish();
    }

    private void due(String call, long got, long want) {
        Due.due("run " + run + ": " + call, got, want);
    }

    private void play() {
        int many = random.nextInt(4) == 0 ? 60 : random.nextInt(30);
        int regionBits = 1 + random.nextInt(random.nextBoolean() ? 5 : 30);
        int span = random.nextBoolean() ? 60 : 400;
        for (int i = 0; i < many; i++) {
            someChange(regionBits, span);
        }
        for (int round = 0; round < 12; round++) {
            tellWay(random.nextInt(4));
            if (random.nextInt(3) == 0) {
                someChange(regionBits, span);
            }
            int w = random.nextInt(4);
            due("play(" + w + ")", x.play(w), m.play(w));
            lookAtPlay();
            for (int i = 0; i < 6; i++) {
                wildCall();
            }
            lookAtPlay();
            holdWays();
        }
    }

    private int wild() {
        return random.nextInt(6) == 0 ? random.nextInt() : WILD[random.nextInt(WILD.length)];
    }

    private void someChange(int regionBits, int span) {
        int birth = random.nextInt(span);
        int regions = 1 << random.nextInt(regionBits);
        while (random.nextInt(3) != 0) {
            regions |= 1 << random.nextInt(regionBits);
        }
        int size = 1 + random.nextInt(random.nextBoolean() ? 4 : 20);
        int breaks = random.nextBoolean() ? 1 + random.nextInt(random.nextBoolean() ? 10 : 100) : -1;
        due("change", x.change(birth, regions, size, breaks), m.change(birth, regions, size, breaks));
        int c = m.count(0) - 1;
        for (int i = random.nextInt(4); i > 0 && c > 0; i--) {
            int on = Math.max(0, c - 1 - random.nextInt(6));
            due("hang(" + c + ", " + on + ")", x.hang(c, on), m.hang(c, on));
        }
        for (int i = random.nextInt(5); i > 0 && c > 0; i--) {
            int of = random.nextInt(c);
            due("fix(" + c + ", " + of + ")", x.fix(c, of), m.fix(c, of));
        }
        for (int what = -1; what < 15; what++) {
            due("about(" + c + ", " + what + ")", x.about(c, what), m.about(c, what));
        }
    }

    private String someText() {
        StringBuilder text = new StringBuilder();
        for (int r = 0; r < 8; r++) {
            if (random.nextInt(5) < 3) {
                text.append(someBlanks(0)).append(Model.WORDS[r]).append(someBlanks(random.nextInt(2)));
                if (r == 7) {
                    text.append(Model.PICKS.get(random.nextInt(3)));
                } else {
                    boolean low = random.nextBoolean();
                    int most = low ? Math.min(Model.HIGH[r], Model.LOW[r] + 9) : Model.HIGH[r];
                    text.append(Model.LOW[r] + random.nextInt(most - Model.LOW[r] + 1));
                }
                text.append(someBlanks(0)).append(';');
            }
        }
        return text.append(someBlanks(0)).toString();
    }

    private String someBlanks(int least) {
        return (random.nextBoolean() ? " " : "\n").repeat(least + random.nextInt(3) / 2);
    }

    private String spoilt(String text) {
        String[] bits = {";", " ", "\n", "\t", "every", "pick", "all", "none", "hot 3;", "0", "9", "51",
            "1000", "test 51;", "queue 0;", "x", "E", ".", "\u00ff", "\0", "ahead 50;", "every 2;"};
        int at = random.nextInt(text.length() + 1);
        int to = Math.min(text.length(), at + random.nextInt(4));
        String bit = random.nextInt(3) == 0 ? "" : bits[random.nextInt(bits.length)];
        return text.substring(0, at) + bit + text.substring(to);
    }

    private void tellWay(int w) {
        String text = someText();
        for (int i = random.nextInt(4); i > 1; i--) {
            text = spoilt(text);
        }
        Due.put(x, text);
        m.tape.setLength(0);
        m.tape.append(text);
        due("way(" + w + ") of <" + text + ">", x.way(w), m.way(w));
        due("fault(0) of <" + text + ">", x.fault(0), m.fault(0));
        due("fault(1) of <" + text + ">", x.fault(1), m.fault(1));
        for (int what = -1; what < 9; what++) {
            due("rule(" + w + ", " + what + ") of <" + text + ">", x.rule(w, what), m.rule(w, what));
        }
        lookAtCounts();
    }

    private void lookAtCounts() {
        for (int what = -1; what < 4; what++) {
            due("count(" + what + ")", x.count(what), m.count(what));
        }
    }

    private void lookAtPlay() {
        for (int c = -1; c <= m.count(0); c++) {
            for (int what = -1; what < 8; what++) {
                due("told(" + c + ", " + what + ")", x.told(c, what), m.told(c, what));
            }
        }
        for (int i = -1; i < 262; i++) {
            due("has(" + i + ")", x.has(i), m.has(i));
            for (int what = -1; what < 5; what++) {
                due("release(" + i + ", " + what + ")", x.release(i, what), m.release(i, what));
            }
        }
        for (int what = -1; what < 9; what++) {
            due("sum(" + what + ")", x.sum(what), m.sum(what));
        }
        lookAtCounts();
    }

    private void holdWays() {
        int w = random.nextInt(4);
        int v = random.nextInt(4);
        due("parts(" + w + ", " + v + ")", x.parts(w, v), m.parts(w, v));
        due("costs(" + w + ")", x.costs(w), m.costs(w));
        int[] p = {random.nextInt(5), random.nextInt(300), random.nextInt(5), random.nextInt(200)};
        due("prices", x.prices(p[0], p[1], p[2], p[3]), m.prices(p[0], p[1], p[2], p[3]));
        due("costs(" + v + ")", x.costs(v), m.costs(v));
        int rule = random.nextInt(6);
        int low = Model.LOW[rule] + random.nextInt(10);
        int high = low + random.nextInt(4) * random.nextInt(4);
        due("best(" + w + ", " + rule + ", " + low + ", " + high + ")",
            x.best(w, rule, low, high), m.best(w, rule, low, high));
    }

    /** Most of these are refused; none may throw, and none may change what it doesn't say. */
    private void wildCall() {
        int a = wild();
        int b = wild();
        int c = wild();
        int d = wild();
        int e = wild();
        switch (random.nextInt(19)) {
            case 0: due("feed", x.feed(a, b, c, d, e), m.feed(a, b, c, d, e)); break;
            case 1: due("end(" + a + ")", x.end(a), m.end(a)); break;
            case 2: due("way(" + a + ")", x.way(a), m.way(a)); break;
            case 3: due("fault(" + a + ")", x.fault(a), m.fault(a)); break;
            case 4: due("rule(" + a + ", " + b + ")", x.rule(a, b), m.rule(a, b)); break;
            case 5:
                due("change(" + a + ", " + b + ", " + c + ", " + d + ")",
                    x.change(a, b, c, d), m.change(a, b, c, d));
                break;
            case 6: due("hang(" + a + ", " + b + ")", x.hang(a, b), m.hang(a, b)); break;
            case 7: due("fix(" + a + ", " + b + ")", x.fix(a, b), m.fix(a, b)); break;
            case 8: due("about(" + a + ", " + b + ")", x.about(a, b), m.about(a, b)); break;
            case 9: due("play(" + a + ")", x.play(a), m.play(a)); break;
            case 10: due("told(" + a + ", " + b + ")", x.told(a, b), m.told(a, b)); break;
            case 11: due("release(" + a + ", " + b + ")", x.release(a, b), m.release(a, b)); break;
            case 12: due("has(" + a + ")", x.has(a), m.has(a)); break;
            case 13: due("sum(" + a + ")", x.sum(a), m.sum(a)); break;
            case 14: due("parts(" + a + ", " + b + ")", x.parts(a, b), m.parts(a, b)); break;
            case 15:
                due("prices(" + a + ", " + b + ", " + c + ", " + d + ")",
                    x.prices(a, b, c, d), m.prices(a, b, c, d));
                break;
            case 16: due("costs(" + a + ")", x.costs(a), m.costs(a)); break;
            case 17:
                due("best(" + a + ", " + b + ", " + c + ", " + d + ")",
                    x.best(a, b, c, d), m.best(a, b, c, d));
                break;
            default: due("count(" + a + ")", x.count(a), m.count(a)); break;
        }
    }
}
