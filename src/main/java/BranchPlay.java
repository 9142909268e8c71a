import java.util.Arrays;

/** Plays a house's ways to let out its program, tick by tick, over the changes that it kept. */
public final class BranchPlay {
    /** There is none. */
    public static final int NONE = -1;
    /** A number that can't be. */
    public static final int RANGE = -2;
    /** No room. */
    public static final int FULL = -3;

    private static final int NO_SUCH = -9;
    private static final int LAST_TICK = 399;
    private static final int MOST_CHANGES = 60;
    private static final int WAYS = 4;
    private static final int MOST_TRIED = 30;
    private static final int HIGHEST_PRICE = 1000;

    // A way's rules, as rule() numbers them.
    private static final int EVERY = 0;
    private static final int AHEAD = 1;
    private static final int TEST = 2;
    private static final int QUEUE = 3;
    private static final int FREEZE = 4;
    private static final int REWORK = 5;
    private static final int HOT = 6;
    private static final int PICK = 7;
    private static final int RULES = 8;
    private static final int PICK_FIXES = 1;
    private static final int PICK_ALL = 2;
    private static final int[] USUAL = {20, 4, 2, 3, 0, 1, NONE, PICK_FIXES};
    // Of all rules but pick, which is told by a word.
    private static final int[] LEAST = {2, 1, 0, 1, 0, 0, 1};
    private static final int[] MOST = {100, 50, 50, 9, 50, 9, 50};

    // What a play keeps of each change, as told() numbers it.
    private static final int BORN = 0;
    private static final int MERGED = 1;
    private static final int OUT = 2;
    private static final int MET = 3;
    private static final int QUARRELS = 4;
    private static final int REWORKED = 5;
    private static final int HELD = 6;
    private static final int KEPT = 7;

    private final Tape tape;
    private final Reader reader;
    private final int[] ways;
    private final Changes changes;
    private final Prices priceList;
    private final Play latest;
    // Played in the latest one's stead where that has to stay.
    private final Play trial;
    private final Play rival;
    private int playedWay;

    public BranchPlay() {
        tape = new Tape();
        reader = new Reader();
        ways = new int[WAYS * RULES];
        for (int w = 0; w < WAYS; w++) {
            System.arraycopy(USUAL, 0, ways, w * RULES, RULES);
        }
        changes = new Changes();
        priceList = new Prices();
        latest = new Play(changes);
        trial = new Play(changes);
        rival = new Play(changes);
        playedWay = NONE;
    }

    public int feed(int a, int b, int c, int d, int e) {
        if (tape.length + 20 > Tape.MOST_BYTES) {
            return FULL;
        }
        tape.append(a);
        tape.append(b);
        tape.append(c);
        tape.append(d);
        tape.append(e);
        return tape.length;
    }

    public int end(int n) {
        if (n < 0 || n > tape.length) {
            return NONE;
        }
        tape.length = n;
        return n;
    }

    public int way(int w) {
        if (!isWay(w)) {
            // The tape is empty behind every way(), but only one that is read has a fault to tell.
            tape.length = 0;
            return RANGE;
        }
        int lines = reader.read(tape);
        tape.length = 0;
        if (lines != NONE) {
            System.arraycopy(reader.rules, 0, ways, w * RULES, RULES);
            playedWay = NONE;
        }
        return lines;
    }

    public int fault(int what) {
        switch (what) {
            case 0: return reader.faultKind;
            case 1: return reader.faultPlace;
            default: return NONE;
        }
    }

    public int rule(int w, int what) {
        if (!isWay(w) || what < 0 || what >= RULES) {
            return NO_SUCH;
        }
        return ways[w * RULES + what];
    }

    public int change(int birth, int regions, int size, int breaks) {
        int number = changes.add(birth, regions, size, breaks);
        if (number >= 0) {
            playedWay = NONE;
        }
        return number;
    }

    public int hang(int c, int on) {
        if (!changes.isLesser(on, c)) {
            return RANGE;
        }
        if (isIn(changes.hangSet[c], on)) {
            return changes.hangCount[c];
        }
        int hangs = changes.addHang(c, on);
        if (hangs >= 0) {
            playedWay = NONE;
        }
        return hangs;
    }

    public int fix(int c, int of) {
        if (!changes.isLesser(of, c) || !changes.addFix(c, of)) {
            return RANGE;
        }
        playedWay = NONE;
        return 1;
    }

    public int about(int c, int what) {
        return changes.isNumber(c) ? changes.tell(c, what) : NO_SUCH;
    }

    public int play(int w) {
        if (!isWay(w)) {
            return RANGE;
        }
        latest.take(ways, w);
        latest.run();
        playedWay = w;
        return latest.log.length;
    }

    public int told(int c, int what) {
        if (playedWay == NONE || !changes.isNumber(c) || what < 0 || what >= KEPT) {
            return NO_SUCH;
        }
        return latest.kept(c, what);
    }

    public int release(int i, int what) {
        return isRelease(i) ? latest.log.tell(i, what) : NO_SUCH;
    }

    public long has(int i) {
        return isRelease(i) ? latest.log.contents[i] : NO_SUCH;
    }

    public int sum(int what) {
        return playedWay == NONE ? NO_SUCH : latest.total(what);
    }

    public int parts(int w, int v) {
        if (!isWay(w) || !isWay(v)) {
            return RANGE;
        }
        trial.take(ways, w);
        rival.take(ways, v);
        trial.begin();
        rival.begin();
        for (int tick = 0; tick <= LAST_TICK; tick++) {
            trial.step(tick);
            rival.step(tick);
            if (trial.trunk != rival.trunk || trial.outNow != rival.outNow) {
                return tick;
            }
        }
        return NONE;
    }

    public int prices(int wait, int met, int hour, int never) {
        if (!isPrice(wait) || !isPrice(met) || !isPrice(hour) || !isPrice(never)) {
            return RANGE;
        }
        priceList.wait = wait;
        priceList.met = met;
        priceList.hour = hour;
        priceList.never = never;
        return 1;
    }

    public int costs(int w) {
        if (!isWay(w)) {
            return RANGE;
        }
        trial.take(ways, w);
        trial.run();
        return priceList.of(trial);
    }

    public int best(int w, int rule, int low, int high) {
        if (!isWay(w) || rule < EVERY || rule > REWORK) {
            return RANGE;
        }
        if (!isWithinBounds(rule, low) || !isWithinBounds(rule, high) || high - low >= MOST_TRIED) {
            return RANGE;
        }
        int cheapest = NONE;
        int leastPrice = 0;
        for (int number = low; number <= high; number++) {
            trial.take(ways, w);
            trial.rules[rule] = number;
            if (trial.rules[AHEAD] < trial.rules[EVERY]) {
                trial.run();
                int price = priceList.of(trial);
                if (cheapest == NONE || price < leastPrice) {
                    cheapest = number;
                    leastPrice = price;
                }
            }
        }
        return cheapest;
    }

    public int count(int what) {
        switch (what) {
            case 0: return changes.count;
            case 1: return tape.length;
            case 2: return playedWay;
            default: return NONE;
        }
    }

    private boolean isRelease(int i) {
        return playedWay != NONE && i >= 0 && i < latest.log.length;
    }

    private static boolean isWay(int w) {
        return w >= 0 && w < WAYS;
    }

    private static boolean isPrice(int price) {
        return price >= 0 && price <= HIGHEST_PRICE;
    }

    private static boolean isWithinBounds(int rule, int number) {
        return number >= LEAST[rule] && number <= MOST[rule];
    }

    private static boolean isIn(long set, int c) {
        return (set >>> c & 1L) != 0;
    }

    private static long only(int c) {
        return 1L << c;
    }

    /** The bytes of a text that is yet to be read. */
    private static final class Tape {
        static final int MOST_BYTES = 600;
        private static final int MOST_DIGITS = 3;
        // The rules' words as rule() numbers them, then the picks': a blank closes each.
        private static final String WORDS =
            "every ahead test queue freeze rework hot pick none fixes all ";

        final byte[] bytes = new byte[MOST_BYTES];
        int length = 0;

        void append(int fourBytes) {
            for (int shift = 24; shift >= 0 && length < MOST_BYTES; shift -= 8) {
                bytes[length] = (byte) (fourBytes >>> shift);
                length++;
            }
        }

        int pastBlanks(int from) {
            int at = from;
            while (at < length && (bytes[at] == 32 || bytes[at] == 10)) {
                at++;
            }
            return at;
        }

        int pastToken(int from) {
            int at = from + 1;
            if (isLetter(from)) {
                while (at < length && isLetter(at)) {
                    at++;
                }
            } else if (isDigit(from)) {
                while (at < length && isDigit(at)) {
                    at++;
                }
            }
            return at;
        }

        /** Which of the words stands there, or NONE. */
        int wordAt(int from, int to) {
            int word = 0;
            int at = from;
            boolean same = true;
            for (int k = 0; k < WORDS.length(); k++) {
                char due = WORDS.charAt(k);
                if (due != ' ') {
                    same = same && at < to && bytes[at] == due;
                    at++;
                } else if (same && at == to) {
                    return word;
                } else {
                    word++;
                    at = from;
                    same = true;
                }
            }
            return NONE;
        }

        /** The number that stands there, or NONE. */
        int numberAt(int from, int to) {
            if (!isDigit(from) || to - from > MOST_DIGITS) {
                return NONE;
            }
            int number = 0;
            for (int at = from; at < to; at++) {
                number = number * 10 + bytes[at] - '0';
            }
            return number;
        }

        boolean isSemicolon(int at) {
            return bytes[at] == ';';
        }

        private boolean isLetter(int at) {
            return bytes[at] >= 'a' && bytes[at] <= 'z';
        }

        private boolean isDigit(int at) {
            return bytes[at] >= '0' && bytes[at] <= '9';
        }
    }

    /** Reads a way's text token by token, to its end or to its first fault. */
    private static final class Reader {
        private static final int SYNTAX = 1;
        private static final int OUT_OF_BOUNDS = 2;
        private static final int TWICE = 3;
        private static final int NOT_AHEAD = 4;

        // Which token goes on with the text.
        private static final int AWAITS_LINE = 0;
        private static final int AWAITS_NUMBER = 1;
        private static final int AWAITS_PICK = 2;
        private static final int AWAITS_SEMICOLON = 3;

        final int[] rules = new int[RULES];
        int faultKind = 0;
        int faultPlace = NONE;
        private int awaited;
        private int lineRule;
        private int toldRules;
        private int lines;

        /** How many lines the text has, or NONE with a fault. */
        int read(Tape tape) {
            System.arraycopy(USUAL, 0, rules, 0, RULES);
            faultKind = 0;
            faultPlace = NONE;
            awaited = AWAITS_LINE;
            toldRules = 0;
            lines = 0;
            int from = tape.pastBlanks(0);
            for (int round = 0; round < Tape.MOST_BYTES && from < tape.length && faultKind == 0; round++) {
                int to = tape.pastToken(from);
                takeToken(tape, from, to);
                from = tape.pastBlanks(to);
            }
            if (faultKind == 0) {
                takeEnd(tape.length);
            }
            return faultKind == 0 ? lines : NONE;
        }

        private void takeToken(Tape tape, int from, int to) {
            switch (awaited) {
                case AWAITS_LINE:
                    takeLineWord(tape.wordAt(from, to), from);
                    break;
                case AWAITS_NUMBER:
                    takeNumber(tape.numberAt(from, to), from);
                    break;
                case AWAITS_PICK:
                    takePick(tape.wordAt(from, to), from);
                    break;
                default:
                    takeSemicolon(tape.isSemicolon(from), from);
                    break;
            }
        }

        private void takeLineWord(int word, int place) {
            if (word < 0 || word >= RULES) {
                blame(SYNTAX, place);
            } else if ((toldRules >>> word & 1) != 0) {
                blame(TWICE, place);
            } else {
                toldRules |= 1 << word;
                lineRule = word;
                awaited = word == PICK ? AWAITS_PICK : AWAITS_NUMBER;
            }
        }

        private void takeNumber(int number, int place) {
            if (number == NONE) {
                blame(SYNTAX, place);
            } else if (!isWithinBounds(lineRule, number)) {
                blame(OUT_OF_BOUNDS, place);
            } else {
                rules[lineRule] = number;
                awaited = AWAITS_SEMICOLON;
            }
        }

        private void takePick(int word, int place) {
            if (word < RULES) {
                blame(SYNTAX, place);
            } else {
                rules[PICK] = word - RULES;
                awaited = AWAITS_SEMICOLON;
            }
        }

        private void takeSemicolon(boolean isOne, int place) {
            if (isOne) {
                lines++;
                awaited = AWAITS_LINE;
            } else {
                blame(SYNTAX, place);
            }
        }

        private void takeEnd(int place) {
            if (awaited != AWAITS_LINE) {
                blame(SYNTAX, place);
            } else if (rules[AHEAD] >= rules[EVERY]) {
                blame(NOT_AHEAD, place);
            }
        }

        private void blame(int kind, int place) {
            faultKind = kind;
            faultPlace = place;
        }
    }

    /** For each tick a set of changes. */
    private static final class Agenda {
        private final long[] sets = new long[LAST_TICK + 1];

        /** What would come behind the last tick never comes. */
        void put(int tick, int c) {
            if (tick >= 0 && tick <= LAST_TICK) {
                sets[tick] |= 1L << c;
            }
        }

        void drop(int tick, int c) {
            if (tick >= 0 && tick <= LAST_TICK) {
                sets[tick] &= ~(1L << c);
            }
        }

        long at(int tick) {
            return tick >= 0 && tick <= LAST_TICK ? sets[tick] : 0L;
        }

        void empty() {
            Arrays.fill(sets, 0L);
        }
    }

    /** Changes in an order. */
    private static final class Line {
        final int[] members = new int[MOST_CHANGES];
        int length = 0;

        void join(int c) {
            if (length < MOST_CHANGES) {
                members[length] = c;
                length++;
            }
        }
    }

    /** The changes, as they were told. */
    private static final class Changes {
        private static final int HIGHEST_REGIONS = (1 << 30) - 1;
        private static final int HIGHEST_SIZE = 20;
        private static final int HIGHEST_BREAK = 100;
        private static final int MOST_HANGS = 3;

        int count = 0;
        final int[] birth = new int[MOST_CHANGES];
        final int[] regions = new int[MOST_CHANGES];
        final int[] size = new int[MOST_CHANGES];
        final int[] breakAfter = new int[MOST_CHANGES];
        final int[] fixOf = new int[MOST_CHANGES];
        final int[] fixedBy = new int[MOST_CHANGES];
        final int[] hangCount = new int[MOST_CHANGES];
        final int[] hangs = new int[MOST_CHANGES * MOST_HANGS];
        final long[] hangSet = new long[MOST_CHANGES];
        long fixes = 0L;
        // Without the fixes: these are born when a play meets a break.
        final Agenda births = new Agenda();

        boolean isNumber(int c) {
            return c >= 0 && c < count;
        }

        boolean isLesser(int lesser, int c) {
            return isNumber(c) && lesser >= 0 && lesser < c;
        }

        int add(int bornAt, int touched, int ticks, int breaks) {
            boolean canBe = bornAt >= 0 && bornAt <= LAST_TICK
                && touched >= 1 && touched <= HIGHEST_REGIONS
                && ticks >= 1 && ticks <= HIGHEST_SIZE
                && (breaks == NONE || breaks >= 1 && breaks <= HIGHEST_BREAK);
            if (!canBe) {
                return RANGE;
            }
            if (count >= MOST_CHANGES) {
                return FULL;
            }
            int c = count;
            birth[c] = bornAt;
            regions[c] = touched;
            size[c] = ticks;
            breakAfter[c] = breaks;
            fixOf[c] = NONE;
            fixedBy[c] = NONE;
            births.put(bornAt, c);
            count++;
            return c;
        }

        int addHang(int c, int on) {
            int many = hangCount[c];
            if (many >= MOST_HANGS) {
                return FULL;
            }
            hangs[c * MOST_HANGS + many] = on;
            hangCount[c] = many + 1;
            hangSet[c] |= only(on);
            return many + 1;
        }

        boolean addFix(int c, int of) {
            if (breakAfter[of] == NONE || fixedBy[of] != NONE || fixOf[c] != NONE) {
                return false;
            }
            fixOf[c] = of;
            fixedBy[of] = c;
            fixes |= only(c);
            births.drop(birth[c], c);
            return true;
        }

        int tell(int c, int what) {
            switch (what) {
                case 0: return birth[c];
                case 1: return regions[c];
                case 2: return size[c];
                case 3: return breakAfter[c];
                case 4: return fixOf[c];
                case 5: return fixedBy[c];
                case 6: return hangCount[c];
                default: return hangAt(c, what);
            }
        }

        private int hangAt(int c, int what) {
            if (what < 10 || what >= 10 + hangCount[c]) {
                return NO_SUCH;
            }
            return hangs[c * MOST_HANGS + what - 10];
        }
    }

    /** The releases of a play, in their order. */
    private static final class Log {
        // One each second tick, and a hot one for each change.
        private static final int MOST_RELEASES = LAST_TICK / 2 + MOST_CHANGES;

        final int[] ticks = new int[MOST_RELEASES];
        final boolean[] hot = new boolean[MOST_RELEASES];
        final int[] held = new int[MOST_RELEASES];
        final long[] contents = new long[MOST_RELEASES];
        int length = 0;

        void add(int tick, boolean isHot, long content, int heldBack) {
            if (length < MOST_RELEASES) {
                ticks[length] = tick;
                hot[length] = isHot;
                held[length] = heldBack;
                contents[length] = content;
                length++;
            }
        }

        int tell(int i, int what) {
            switch (what) {
                case 0: return ticks[i];
                case 1: return hot[i] ? 1 : 0;
                case 2: return Long.bitCount(contents[i]);
                case 3: return held[i];
                default: return NO_SUCH;
            }
        }
    }

    /** One way played over the changes. */
    private static final class Play {
        private final Changes changes;
        final int[] rules = new int[RULES];
        // Row by row, as told() numbers them: when each change was born, merged, out, met ..
        private final int[] moments = new int[QUARRELS * MOST_CHANGES];
        // .. and how many quarrels, ticks of rework and holds it had.
        private final int[] tallies = new int[(KEPT - QUARRELS) * MOST_CHANGES];
        // How many were merged ahead of each change: its base is the start of the merged line.
        private final int[] base = new int[MOST_CHANGES];
        private final Line merged = new Line();
        private final Agenda readyAgenda = new Agenda();
        private final Agenda breakAgenda = new Agenda();
        private final Agenda hotAgenda = new Agenda();
        // Who joins at a later tick is ready later, so both lines are by readiness, then number.
        private final Line readyFixes = new Line();
        private final Line readyOthers = new Line();
        final Log log = new Log();
        long trunk = 0L;
        long outNow = 0L;
        private long everOut = 0L;
        private long branch = 0L;
        private boolean branchIsOpen = false;
        private int nextRelease = 0;
        private int bornCount = 0;
        private int mostUnmerged = 0;

        Play(Changes changes) {
            this.changes = changes;
        }

        void take(int[] ways, int w) {
            if (isWay(w) && ways.length == WAYS * RULES) {
                System.arraycopy(ways, w * RULES, rules, 0, RULES);
            }
        }

        void run() {
            begin();
            for (int tick = 0; tick <= LAST_TICK; tick++) {
                step(tick);
            }
        }

        void begin() {
            Arrays.fill(moments, NONE);
            Arrays.fill(tallies, 0);
            readyAgenda.empty();
            breakAgenda.empty();
            hotAgenda.empty();
            merged.length = 0;
            readyFixes.length = 0;
            readyOthers.length = 0;
            log.length = 0;
            trunk = 0L;
            outNow = 0L;
            everOut = 0L;
            branch = 0L;
            branchIsOpen = false;
            nextRelease = rules[EVERY];
            bornCount = 0;
            mostUnmerged = 0;
        }

        void step(int tick) {
            if (tick == nextRelease) {
                letOutBranch(tick);
            }
            letOutHot(tick);
            long bornFixes = meetBreaks(tick);
            bear(tick, changes.births.at(tick) | bornFixes);
            mergeReady(tick);
            if (tick == nextRelease - rules[AHEAD] && nextRelease <= LAST_TICK) {
                branch = trunk;
                branchIsOpen = true;
            }
            mostUnmerged = Math.max(mostUnmerged, bornCount - merged.length);
        }

        private void letOutBranch(int tick) {
            long content = 0L;
            int heldBack = 0;
            for (int c = 0; c < changes.count; c++) {
                if (isIn(branch, c)) {
                    // What it hangs on is lesser, so it is decided already.
                    if (isTested(c, tick) && (changes.hangSet[c] & ~content) == 0) {
                        content |= only(c);
                    } else {
                        heldBack++;
                        raise(c, HELD, 1);
                    }
                }
            }
            branchIsOpen = false;
            nextRelease += rules[EVERY];
            letOut(tick, false, content, heldBack);
        }

        /** A pick is on the branch since its merge, so the merge's tick stands for both. */
        private boolean isTested(int c, int tick) {
            return tick - kept(c, MERGED) >= rules[TEST];
        }

        private void letOutHot(int tick) {
            long due = hotAgenda.at(tick);
            if (due == 0) {
                return;
            }
            for (int c = 0; c < changes.count; c++) {
                if (isIn(due, c) && isIn(outNow, changes.fixOf[c]) && !isIn(outNow, c)) {
                    letOut(tick, true, outNow | only(c), 0);
                }
            }
        }

        private void letOut(int tick, boolean isHot, long content, int heldBack) {
            log.add(tick, isHot, content, heldBack);
            long fresh = content & ~everOut;
            outNow = content;
            everOut |= content;
            if (fresh == 0) {
                return;
            }
            for (int c = 0; c < changes.count; c++) {
                if (isIn(fresh, c)) {
                    mark(c, OUT, tick);
                    if (changes.breakAfter[c] != NONE) {
                        breakAgenda.put(tick + changes.breakAfter[c], c);
                    }
                }
            }
        }

        /** Answers the fixes that are born by it. */
        private long meetBreaks(int tick) {
            long due = breakAgenda.at(tick) & outNow;
            long bornFixes = 0L;
            if (due == 0) {
                return bornFixes;
            }
            for (int c = 0; c < changes.count; c++) {
                int mend = changes.fixedBy[c];
                boolean isMended = mend != NONE && isIn(outNow, mend);
                if (isIn(due, c) && !isMended) {
                    mark(c, MET, tick);
                    bornFixes |= mend == NONE ? 0L : only(mend);
                }
            }
            return bornFixes;
        }

        private void bear(int tick, long newborn) {
            if (newborn == 0) {
                return;
            }
            for (int c = 0; c < changes.count; c++) {
                if (isIn(newborn, c)) {
                    mark(c, BORN, tick);
                    base[c] = merged.length;
                    readyAgenda.put(tick + changes.size[c], c);
                    bornCount++;
                }
            }
        }

        private void mergeReady(int tick) {
            joinLines(readyAgenda.at(tick));
            int room = mergeLine(readyFixes, rules[QUEUE], tick);
            if (!isFrozen(tick)) {
                mergeLine(readyOthers, room, tick);
            }
        }

        private void joinLines(long ready) {
            if (ready == 0) {
                return;
            }
            for (int c = 0; c < changes.count; c++) {
                if (isIn(ready, c)) {
                    if (isIn(changes.fixes, c)) {
                        readyFixes.join(c);
                    } else {
                        readyOthers.join(c);
                    }
                }
            }
        }

        /** The tick of a cut is free, even where the next cut is freeze ticks away or fewer. */
        private boolean isFrozen(int tick) {
            int releaseOfCut = branchIsOpen ? nextRelease + rules[EVERY] : nextRelease;
            int gap = releaseOfCut - rules[AHEAD] - tick;
            return releaseOfCut <= LAST_TICK && gap > 0 && gap <= rules[FREEZE];
        }

        /** Goes through the line once, and answers how many more may merge at this tick. */
        private int mergeLine(Line line, int room, int tick) {
            int left = room;
            int staying = 0;
            for (int i = 0; i < line.length; i++) {
                int c = line.members[i];
                if (left <= 0 || (changes.hangSet[c] & ~trunk) != 0) {
                    line.members[staying] = c;
                    staying++;
                } else {
                    int quarrelling = quarrellingRegions(c);
                    if (quarrelling > 0) {
                        sendBack(c, quarrelling * rules[REWORK], tick);
                    } else {
                        mergeOne(c, tick);
                        left--;
                    }
                }
            }
            line.length = staying;
            return left;
        }

        private int quarrellingRegions(int c) {
            if (rules[REWORK] <= 0) {
                return 0;
            }
            int touched = 0;
            for (int i = base[c]; i < merged.length; i++) {
                touched |= changes.regions[merged.members[i]];
            }
            return Integer.bitCount(touched & changes.regions[c]);
        }

        private void sendBack(int c, int rework, int tick) {
            raise(c, QUARRELS, 1);
            raise(c, REWORKED, rework);
            base[c] = merged.length;
            readyAgenda.put(tick + rework, c);
        }

        private void mergeOne(int c, int tick) {
            boolean isFix = isIn(changes.fixes, c);
            mark(c, MERGED, tick);
            merged.join(c);
            trunk |= only(c);
            if (branchIsOpen && (rules[PICK] == PICK_ALL || isFix && rules[PICK] == PICK_FIXES)) {
                branch |= only(c);
            }
            if (isFix && rules[HOT] != NONE) {
                hotAgenda.put(tick + rules[HOT], c);
            }
        }

        private void mark(int c, int what, int tick) {
            moments[what * MOST_CHANGES + c] = tick;
        }

        private void raise(int c, int what, int by) {
            tallies[(what - QUARRELS) * MOST_CHANGES + c] += by;
        }

        int kept(int c, int what) {
            if (what < QUARRELS) {
                return moments[what * MOST_CHANGES + c];
            }
            return tallies[(what - QUARRELS) * MOST_CHANGES + c];
        }

        int total(int what) {
            switch (what) {
                case 0: return waits();
                case 1: return longestWait();
                case 2: return bornCount - Long.bitCount(everOut);
                case 3: return metBreaks();
                case 4: return tallied(QUARRELS);
                case 5: return hours();
                case 6: return tallied(HELD);
                case 7: return mostUnmerged;
                default: return NO_SUCH;
            }
        }

        private int waitOf(int c) {
            return isIn(everOut, c) ? kept(c, OUT) - kept(c, BORN) : 0;
        }

        private int waits() {
            int ticks = 0;
            for (int c = 0; c < changes.count; c++) {
                ticks += waitOf(c);
            }
            return ticks;
        }

        private int longestWait() {
            int longest = 0;
            for (int c = 0; c < changes.count; c++) {
                longest = Math.max(longest, waitOf(c));
            }
            return longest;
        }

        private int metBreaks() {
            int met = 0;
            for (int c = 0; c < changes.count; c++) {
                met += kept(c, MET) == NONE ? 0 : 1;
            }
            return met;
        }

        private int tallied(int what) {
            int many = 0;
            for (int c = 0; c < changes.count; c++) {
                many += kept(c, what);
            }
            return many;
        }

        private int hours() {
            int ticks = tallied(REWORKED);
            for (int c = 0; c < changes.count; c++) {
                ticks += kept(c, BORN) == NONE ? 0 : changes.size[c];
            }
            return ticks;
        }
    }

    /** What a way's play is charged for. */
    private static final class Prices {
        int wait = 1;
        int met = 100;
        int hour = 2;
        int never = 50;

        int of(Play played) {
            return wait * played.total(0) + met * played.total(3)
                + hour * played.total(5) + never * played.total(2);
        }
    }
}
