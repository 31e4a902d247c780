/**
 * Things that a tide's wind washes up on a bar, where they vote on the agenda if they make a house.
 * Words in capitals in the comments are the terms of the document.
 */
public final class FlotsamQuorum {
    public static final int NONE = -1, BAD = -2, STATE = -3, FULL = -4;
    public static final long NO = Long.MIN_VALUE;

    private static final int NOT_FOUND = -5;
    private static final int OTHER_KIND = -6;
    private static final int NONE_BELOW_ZERO = -999999;
    private static final int FIRST_FAULT = -10;

    private static final int MOTIONS = 5;
    private static final int ALL_MOTIONS = 31;
    private static final int ROWS_OF_MOTIONS = 120;
    private static final int WINDS = 4;
    private static final int TOLD_ROW = 4;
    private static final int TOP = 9;
    private static final int NUMBERS = 10;

    private static final int MOST_SIGNS = 100;
    private static final int LAST_SIGN = 127;
    private static final int MOST_BARS = 5;
    private static final int MOST_CLAUSES = 10;
    private static final int MOST_OPEN = 5;
    private static final int MOST_THINGS = 6;
    private static final int MOST_SEEN = 5;
    private static final int MOST_ROWS = 8;
    private static final int MOST_TRACED = 20;

    private static final int MOST_TIDES = 60;
    private static final int MOST_TIDES_SEEN = 20;
    private static final int TIDES_TO_BE_STILL = 20;
    private static final int LAST_TIDE = 9999;
    private static final int QUORUM_WITHOUT = 2;

    private static final int THING = 0, CHAIR = 1, CASK = 2, BOOT = 3, THRONE = 4, HARMONIUM = 5, TOLD = 6;
    private static final int KINDS = 7;
    private static final int[] ABOVE = {-1, THING, THING, THING, CHAIR, CASK, BOOT};

    private static final int BOBS = 0, SITS = 1, VOTES = 2;
    private static final int ACTS = 3;
    /** An act's row of seven has each kind's own body for it, 0 where the kind has none. */
    private static final int[] BODIES = {
        1, 11, 0, 0, 0, 51, 0,
        2, 0, 21, 0, 0, 0, 61,
        3, 0, 0, 31, 41, 0, 0
    };
    /** Super calls and calls on itself stand five deep at most; more would be a fault of the tables. */
    private static final int MOST_BODIES_OPEN = 20;

    private static final int[] FACTORIALS = {1, 1, 2, 6, 24, 120, 720};
    private static final int MOST_GCD_STEPS = 100;

    private final Everything now = new Everything();
    private final Everything kept = new Everything();
    private boolean isKept;
    /** All questions about tides to come are played out here, so that what is asked changes nothing. */
    private final Shore trial = new Shore();
    private final Reader reader = new Reader();
    private final Acts acts = new Acts();
    private final int[] tried = new int[MOTIONS];
    private final int[] best = new int[MOTIONS];

    public FlotsamQuorum() {
    }

    // ---- bars, things, winds

    public int feed(int sign) {
        if (sign < 0 || sign > LAST_SIGN) {
            return BAD;
        }
        if (now.signs >= MOST_SIGNS) {
            return FULL;
        }
        put(now.tape, now.signs, sign);
        now.signs++;
        return now.signs;
    }

    public int bar() {
        if (now.bars >= MOST_BARS) {
            return FULL;
        }
        boolean isBar = reader.reads(now.tape, now.signs);
        now.signs = 0;
        if (!isBar) {
            return FIRST_FAULT - reader.at;
        }
        now.shore.bar.copyFrom(reader.draft);
        now.bars++;
        return now.bars - 1;
    }

    public int thing(int kind, int v, int drift) {
        if (!isKind(kind)) {
            return NONE;
        }
        if (!isNumber(v) || !isNumber(drift)) {
            return BAD;
        }
        if (now.shore.things.size >= MOST_THINGS) {
            return FULL;
        }
        return now.shore.things.add(kind, v, drift);
    }

    public int of(int thing, int what) {
        Things things = now.shore.things;
        if (!things.has(thing)) {
            return NONE_BELOW_ZERO;
        }
        switch (what) {
            case 0: return cell(things.kind, thing);
            case 1: return cell(things.v, thing);
            case 2: return cell(things.weight, thing);
            case 3: return cell(things.drift, thing);
            case 4: return bit(things.lost, thing);
            case 5: return bit(now.shore.thoseIn(), thing);
            default: break;
        }
        if (what < 10 || what >= 10 + MOTIONS) {
            return NONE_BELOW_ZERO;
        }
        return now.shore.likes(thing, what - 10);
    }

    public int row(int thing, int k, int n) {
        Things things = now.shore.things;
        if (!things.has(thing) || k < 0 || k >= TOLD_ROW) {
            return NONE;
        }
        if (!isNumber(n)) {
            return BAD;
        }
        if (cell(things.kind, thing) != TOLD) {
            return STATE;
        }
        return exchange(things.rows, thing * TOLD_ROW + k, n);
    }

    public int set(int thing, int what, int n) {
        Things things = now.shore.things;
        if (!things.has(thing) || what < 0 || what > 1) {
            return NONE;
        }
        if (!isNumber(n)) {
            return BAD;
        }
        return exchange(what == 0 ? things.weight : things.drift, thing, n);
    }

    public int lose(int thing, boolean is) {
        Things things = now.shore.things;
        if (!things.has(thing)) {
            return NONE;
        }
        int was = bit(things.lost, thing);
        things.lost = withBit(things.lost, thing, is);
        return was;
    }

    public int wind(int k, int n) {
        if (k < 0 || k >= WINDS) {
            return NONE;
        }
        if (!isNumber(n)) {
            return BAD;
        }
        return exchange(now.shore.winds, k, n);
    }

    public int move(int motion) {
        Shore shore = now.shore;
        if (motion == -1) {
            shore.agendaSize = 0;
            return 0;
        }
        if (!isMotion(motion)) {
            return NONE;
        }
        if (shore.hasOnAgenda(motion)) {
            return STATE;
        }
        put(shore.agenda, shore.agendaSize, motion);
        shore.agendaSize++;
        return shore.agendaSize;
    }

    public int carry(int motion, boolean is) {
        if (!isMotion(motion)) {
            return NONE;
        }
        int was = bit(now.shore.carried, motion);
        now.shore.carried = withBit(now.shore.carried, motion, is);
        return was;
    }

    public int told(int what) {
        switch (what) {
            case 0: return now.shore.tide;
            case 1: return now.shore.bar.quorum;
            case 2: return now.shore.carried;
            case 3: return now.shore.thoseIn();
            case 4: return tidesTillStill();
            default: break;
        }
        if (what < 10 || what >= 10 + WINDS) {
            return NONE;
        }
        return cell(now.shore.winds, what - 10);
    }

    public int pass(int n) {
        if (n < 0 || n > MOST_TIDES) {
            return BAD;
        }
        if (now.shore.tide + n > LAST_TIDE) {
            return STATE;
        }
        now.shore.goTides(n);
        return now.shore.tide;
    }

    // ---- tides to come

    public int on(int n, int what) {
        if (what < 0 || what > 1) {
            return NONE;
        }
        if (n < 0 || n > MOST_TIDES) {
            return BAD;
        }
        trial.copyFrom(now.shore);
        trial.goTides(n);
        return what == 0 ? trial.carried : trial.thoseIn();
    }

    public int when(int motion) {
        if (!isMotion(motion)) {
            return NONE;
        }
        trial.copyFrom(now.shore);
        for (int n = 0; n <= MOST_TIDES; n++) {
            if (bit(trial.carried, motion) == 1) {
                return n;
            }
            trial.goTide();
        }
        return NOT_FOUND;
    }

    public int order(int set, int k) {
        if (k < -1 || k >= MOTIONS) {
            return NONE;
        }
        if (set < 0 || set > ALL_MOTIONS) {
            return BAD;
        }
        int most = findBestRow(set);
        return k < 0 ? most : cell(best, k);
    }

    public int blows(int motion) {
        if (!isMotion(motion)) {
            return NONE;
        }
        return windsThatCarry(motion);
    }

    public int stop(int motion) {
        if (!isMotion(motion)) {
            return NONE;
        }
        trial.copyFrom(now.shore);
        int found = NOT_FOUND;
        int fewest = MOST_THINGS + 1;
        int sets = 1 << trial.things.size;
        for (int set = 0; set < sets; set++) {
            // Sets are tried from the least on: a later one must be smaller to be the better one.
            if (Integer.bitCount(set) < fewest && !isCarriedWithout(set, motion)) {
                found = set;
                fewest = Integer.bitCount(set);
            }
        }
        return found;
    }

    // ---- seen, odds; part 0 above, 1 below the line

    public int see(int motion, int n, boolean isCarried) {
        if (motion == -1) {
            now.seen.size = 0;
            return 0;
        }
        if (!isMotion(motion)) {
            return NONE;
        }
        if (n < 0 || n > MOST_TIDES_SEEN) {
            return BAD;
        }
        return now.seen.add(motion, n, isCarried ? 1 : 0);
    }

    public int drifts(int thing) {
        if (!now.shore.things.has(thing)) {
            return NONE;
        }
        trial.copyFrom(now.shore);
        return numbersAsSeen(trial.things.drift, thing);
    }

    public int firm(int thing, int what) {
        if (!now.shore.things.has(thing) || what < 0 || what > 1) {
            return NONE;
        }
        trial.copyFrom(now.shore);
        int numbers = numbersAsSeen(trial.things.v, thing);
        return what == 0 ? Integer.bitCount(numbers) : leastOf(numbers);
    }

    public long power(int thing, int part) {
        if (!now.shore.things.has(thing) || !isPart(part)) {
            return NO;
        }
        int in = now.shore.thoseIn();
        if (bit(in, thing) == 0) {
            return fraction(0, 1, part);
        }
        return fraction(rowsTurnedBy(thing, in), cell(FACTORIALS, Integer.bitCount(in)), part);
    }

    public long odds(int motion, int part) {
        if (!isMotion(motion) || !isPart(part)) {
            return NO;
        }
        return fraction(Integer.bitCount(windsThatCarry(motion)), NUMBERS, part);
    }

    public long mean(int part) {
        int in = now.shore.thoseIn();
        if (!isPart(part) || in == 0) {
            return NO;
        }
        return fraction(now.shore.things.weightOf(in), Integer.bitCount(in), part);
    }

    // ---- plans, books

    public int plan(int what, int n) {
        if (what == -1) {
            now.plan.size = 0;
            return 0;
        }
        if (what < 0 || what > 3) {
            return NONE;
        }
        boolean isOfThing = what == 1 || what == 2;
        if (isOfThing && !now.shore.things.has(n) || what == 3 && !isMotion(n)) {
            return NONE;
        }
        return now.plan.add(what, n, 0);
    }

    public int done(int what) {
        if (what < 0 || what > 1) {
            return NONE;
        }
        trial.copyFrom(now.shore);
        for (int i = 0; i < now.plan.size; i++) {
            doPlanned(cell(now.plan.first, i), cell(now.plan.second, i));
        }
        return what == 0 ? trial.carried : trial.thoseIn();
    }

    public int book(int thing, int drift) {
        if (thing == -1) {
            now.book.size = 0;
            return 0;
        }
        if (!now.shore.things.has(thing)) {
            return NONE;
        }
        if (!isNumber(drift)) {
            return BAD;
        }
        return now.book.add(thing, drift, 0);
    }

    public int looked() {
        for (int i = 0; i < now.book.size; i++) {
            int drift = cell(now.shore.things.drift, cell(now.book.first, i));
            if (drift != cell(now.book.second, i)) {
                return i;
            }
        }
        return NOT_FOUND;
    }

    // ---- acts, the image

    public int act(int thing, int act, int x) {
        Things things = now.shore.things;
        acts.ran = 0;
        if (!things.has(thing) || act < 0 || act >= ACTS) {
            return 0;
        }
        acts.number = thing;
        acts.kind = cell(things.kind, thing);
        acts.v = cell(things.v, thing);
        return Acts.run(acts, act, acts.kind, x, 0);
    }

    public int trace(int i) {
        if (i < 0 || i >= acts.ran || i >= MOST_TRACED) {
            return NONE;
        }
        return cell(acts.bodies, i);
    }

    public int as(int thing, int k) {
        Things things = now.shore.things;
        if (!things.has(thing) || !isKind(k)) {
            return NONE;
        }
        return isUnder(cell(things.kind, thing), k) ? cell(things.v, thing) : OTHER_KIND;
    }

    public int image() {
        kept.copyFrom(now);
        isKept = true;
        return now.shore.things.size;
    }

    public int undo() {
        if (!isKept) {
            return STATE;
        }
        now.copyFrom(kept);
        return now.shore.things.size;
    }

    public int count(int what) {
        switch (what) {
            case 0: return now.shore.things.size;
            case 1: return now.bars;
            case 2: return now.shore.agendaSize;
            case 3: return now.seen.size;
            case 4: return now.plan.size;
            case 5: return now.book.size;
            case 6: return now.signs;
            case 7: return acts.ran;
            default: return NONE;
        }
    }

    // ---- what the calls above ask of the trial

    private int tidesTillStill() {
        trial.copyFrom(now.shore);
        int since = 0;
        int before = trial.carried;
        for (int n = 1; n <= MOST_TIDES; n++) {
            trial.goTide();
            if (trial.carried != before) {
                since = n;
                before = trial.carried;
            }
            if (n - since >= TIDES_TO_BE_STILL) {
                return since;
            }
        }
        return NOT_FOUND;
    }

    /** Leaves the row in best, and answers how many motions are by it as the set tells. */
    private int findBestRow(int set) {
        trial.copyFrom(now.shore);
        for (int i = 0; i < MOTIONS; i++) {
            put(tried, i, i);
        }
        int most = -1;
        for (int i = 0; i < ROWS_OF_MOTIONS; i++) {
            copy(tried, trial.agenda);
            trial.agendaSize = MOTIONS;
            trial.goBackTo(now.shore);
            trial.goTide();
            int asTold = MOTIONS - Integer.bitCount(trial.carried ^ set);
            if (asTold > most) {
                most = asTold;
                copy(tried, best);
            }
            goToNextRow(tried);
        }
        return most;
    }

    private int windsThatCarry(int motion) {
        trial.copyFrom(now.shore);
        int winds = 0;
        for (int n = 0; n <= TOP; n++) {
            put(trial.winds, now.shore.tide % WINDS, n);
            trial.goBackTo(now.shore);
            trial.goTide();
            winds |= bit(trial.carried, motion) << n;
        }
        return winds;
    }

    private boolean isCarriedWithout(int lostToo, int motion) {
        trial.things.lost = now.shore.things.lost | lostToo;
        trial.goBackTo(now.shore);
        trial.goTide();
        return bit(trial.carried, motion) == 1;
    }

    /** The row is one of the trial's: its cell of that thing becomes each number in turn. */
    private int numbersAsSeen(int[] row, int thing) {
        int numbers = 0;
        for (int n = 0; n <= TOP; n++) {
            put(row, thing, n);
            trial.goBackTo(now.shore);
            numbers = withBit(numbers, n, isAllAsSeen());
        }
        return numbers;
    }

    private boolean isAllAsSeen() {
        int last = now.seen.greatestSecond();
        for (int n = 0; n <= last; n++) {
            for (int i = 0; i < now.seen.size; i++) {
                boolean isThen = cell(now.seen.second, i) == n;
                if (isThen && bit(trial.carried, cell(now.seen.first, i)) != cell(now.seen.third, i)) {
                    return false;
                }
            }
            if (n < last) {
                trial.goTide();
            }
        }
        return true;
    }

    /** Who is ahead counts, not in which row: each set ahead stands for all rows of it and of those behind. */
    private long rowsTurnedBy(int thing, int in) {
        Things things = now.shore.things;
        int all = things.weightOf(in);
        int own = cell(things.weight, thing);
        int others = withBit(in, thing, false);
        int size = Integer.bitCount(others);
        long rows = 0;
        for (int ahead = 0; ahead < 1 << MOST_THINGS; ahead++) {
            boolean isOfOthers = (ahead & ~others) == 0;
            int weight = things.weightOf(ahead);
            if (isOfOthers && 2 * weight <= all && 2 * (weight + own) > all) {
                int sizeAhead = Integer.bitCount(ahead);
                rows += (long) cell(FACTORIALS, sizeAhead) * cell(FACTORIALS, size - sizeAhead);
            }
        }
        return rows;
    }

    private void doPlanned(int what, int n) {
        switch (what) {
            case 0:
                trial.goTide();
                break;
            case 1:
                trial.things.lost = withBit(trial.things.lost, n, true);
                break;
            case 2:
                trial.things.lost = withBit(trial.things.lost, n, false);
                break;
            default:
                trial.carried = withBit(trial.carried, n, false);
                break;
        }
    }

    // ---- what a number is

    private static boolean isNumber(int n) {
        return n >= 0 && n <= TOP;
    }

    private static boolean isMotion(int n) {
        return n >= 0 && n < MOTIONS;
    }

    private static boolean isKind(int n) {
        return n >= 0 && n < KINDS;
    }

    private static boolean isPart(int n) {
        return n == 0 || n == 1;
    }

    private static boolean isUnder(int kind, int k) {
        int at = kind;
        for (int i = 0; i < KINDS && at >= 0; i++) {
            if (at == k) {
                return true;
            }
            at = cell(ABOVE, at);
        }
        return false;
    }

    // ---- rows, bits, fractions

    /** All single cells are read and written by these, so that no index is used that was not looked at. */
    private static int cell(int[] row, int i) {
        return i >= 0 && i < row.length ? row[i] : 0;
    }

    private static void put(int[] row, int i, int n) {
        if (i >= 0 && i < row.length) {
            row[i] = n;
        }
    }

    private static int exchange(int[] row, int i, int n) {
        int was = cell(row, i);
        put(row, i, n);
        return was;
    }

    private static void copy(int[] from, int[] to) {
        System.arraycopy(from, 0, to, 0, Math.min(from.length, to.length));
    }

    private static int bit(int bits, int i) {
        return bits >> i & 1;
    }

    private static int withBit(int bits, int i, boolean is) {
        return is ? bits | 1 << i : bits & ~(1 << i);
    }

    private static int leastOf(int bits) {
        for (int n = 0; n <= TOP; n++) {
            if (bit(bits, n) == 1) {
                return n;
            }
        }
        return NOT_FOUND;
    }

    /** The last row of all stays as it is. */
    private static void goToNextRow(int[] row) {
        int i = row.length - 2;
        while (i >= 0 && cell(row, i) > cell(row, i + 1)) {
            i--;
        }
        if (i < 0) {
            return;
        }
        int j = row.length - 1;
        while (j > i && cell(row, j) < cell(row, i)) {
            j--;
        }
        put(row, i, exchange(row, j, cell(row, i)));
        int a = i + 1;
        for (int b = row.length - 1; a < b; b--) {
            put(row, a, exchange(row, b, cell(row, a)));
            a++;
        }
    }

    private static long fraction(long above, long below, int part) {
        long divisor = above;
        long rest = below;
        for (int i = 0; i < MOST_GCD_STEPS && rest != 0; i++) {
            long next = divisor % rest;
            divisor = rest;
            rest = next;
        }
        if (divisor == 0) {
            return NO;
        }
        return part == 0 ? above / divisor : below / divisor;
    }

    private static final class Things {
        final int[] kind = new int[MOST_THINGS];
        final int[] v = new int[MOST_THINGS];
        final int[] weight = new int[MOST_THINGS];
        final int[] drift = new int[MOST_THINGS];
        final int[] rows = new int[MOST_THINGS * TOLD_ROW];
        int lost;
        int size;

        boolean has(int i) {
            return i >= 0 && i < size;
        }

        /** All of the place is written, so that it is the same whatever stood in it before. */
        int add(int itsKind, int itsV, int itsDrift) {
            put(kind, size, itsKind);
            put(v, size, itsV);
            put(weight, size, 1);
            put(drift, size, itsDrift);
            for (int k = 0; k < TOLD_ROW; k++) {
                put(rows, size * TOLD_ROW + k, 0);
            }
            lost = withBit(lost, size, false);
            size++;
            return size - 1;
        }

        int weightOf(int these) {
            int sum = 0;
            for (int i = 0; i < size; i++) {
                sum += bit(these, i) * cell(weight, i);
            }
            return sum;
        }

        void copyFrom(Things other) {
            copy(other.kind, kind);
            copy(other.v, v);
            copy(other.weight, weight);
            copy(other.drift, drift);
            copy(other.rows, rows);
            lost = other.lost;
            size = other.size;
        }
    }

    /**
     * The clauses, each with the code of its E. A piece of code sets or turns what holds so far, or jumps on where
     * that settles a T or an E; so no stack is needed, and what is settled is not asked again.
     */
    private static final class Bar {
        static final String FACT_NAMES = "pkvmct";
        static final int P = 0, K = 1, V = 2, M = 3, C = 4, T = 5;
        static final int FACTS = 6;
        static final String SIGNS = "<=>";
        static final int LESS = 0, SAME = 1;
        static final int NOT = 6, JUMP_IF = 7, JUMP_UNLESS = 8;

        final int[] factor = new int[MOST_CLAUSES];
        final int[] codeEnd = new int[MOST_CLAUSES];
        final int[] code = new int[MOST_SIGNS];
        int clauses;
        int codeSize;
        int quorum = QUORUM_WITHOUT;

        void clear() {
            clauses = 0;
            codeSize = 0;
            quorum = QUORUM_WITHOUT;
        }

        /** What holds is worth as many, below 0 for resent. */
        void endClause(int worth) {
            put(factor, clauses, worth);
            put(codeEnd, clauses, codeSize);
            clauses++;
        }

        int add(int what, int sign, int n) {
            put(code, codeSize, what | sign << 4 | n << 8);
            codeSize++;
            return codeSize - 1;
        }

        void jumpToHere(int jump) {
            int what = cell(code, jump) & 15;
            put(code, jump, what | codeSize << 8);
        }

        int sum(int[] facts) {
            int sum = 0;
            int from = 0;
            for (int i = 0; i < clauses && i < MOST_CLAUSES; i++) {
                int to = cell(codeEnd, i);
                if (holds(from, to, facts)) {
                    sum += cell(factor, i);
                }
                from = to;
            }
            return sum;
        }

        private boolean holds(int from, int to, int[] facts) {
            boolean is = false;
            for (int at = from; at >= 0 && at < to && at < code.length; at++) {
                int what = code[at] & 15;
                int sign = code[at] >> 4 & 15;
                int n = code[at] >> 8;
                if (what < FACTS && what < facts.length) {
                    int fact = facts[what];
                    is = sign == LESS ? fact < n : sign == SAME ? fact == n : fact > n;
                } else if (what == NOT) {
                    is = !is;
                } else if (is == (what == JUMP_IF) && n > at) {
                    at = n - 1;
                }
            }
            return is;
        }

        void copyFrom(Bar other) {
            copy(other.factor, factor);
            copy(other.codeEnd, codeEnd);
            copy(other.code, code);
            clauses = other.clauses;
            codeSize = other.codeSize;
            quorum = other.quorum;
        }
    }

    /** Reads a bar sign by sign and stays at the first one that can't go on, so that at is then the FAULT. */
    private static final class Reader {
        final Bar draft = new Bar();
        int at;
        private final int[] tape = new int[MOST_SIGNS];
        private int size;
        private int number;

        boolean reads(int[] signs, int howMany) {
            copy(signs, tape);
            size = howMany;
            at = 0;
            draft.clear();
            for (int i = 1; i <= MOST_CLAUSES; i++) {
                if (!isClause()) {
                    return false;
                }
                if (at >= size) {
                    return true;
                }
                if (i == MOST_CLAUSES || !takes(';')) {
                    return false;
                }
            }
            return false;
        }

        private boolean isClause() {
            int first = sign();
            String word = first == 'q' ? "quorum " : first == 'f' ? "favour " : "resent ";
            if (!isWord(word) || !isNumberNext()) {
                return false;
            }
            if (first == 'q') {
                draft.quorum = number;
                draft.endClause(0);
                return true;
            }
            int worth = first == 'f' ? number : -number;
            if (!takes(' ') || !isExpression(0)) {
                return false;
            }
            draft.endClause(worth);
            return true;
        }

        /** A jump goes to the next one of its kind, which jumps on by the same, till the last goes behind the end. */
        private boolean isExpression(int open) {
            int jump = -1;
            for (int i = 0; i < MOST_SIGNS; i++) {
                if (!isTerm(open)) {
                    return false;
                }
                draft.jumpToHere(jump);
                if (!takes('|')) {
                    return true;
                }
                jump = draft.add(Bar.JUMP_IF, 0, 0);
            }
            return false;
        }

        private boolean isTerm(int open) {
            int jump = -1;
            for (int i = 0; i < MOST_SIGNS; i++) {
                if (!isFactor(open)) {
                    return false;
                }
                draft.jumpToHere(jump);
                if (!takes('&')) {
                    return true;
                }
                jump = draft.add(Bar.JUMP_UNLESS, 0, 0);
            }
            return false;
        }

        private boolean isFactor(int open) {
            int inner = open;
            while (inner < MOST_OPEN && takes('!')) {
                inner++;
            }
            if (inner < MOST_OPEN && takes('(')) {
                if (!isExpression(inner + 1) || !takes(')')) {
                    return false;
                }
            } else {
                int what = takesOneOf(Bar.FACT_NAMES);
                int sign = what < 0 ? -1 : takesOneOf(Bar.SIGNS);
                if (what < 0 || sign < 0 || !isNumberNext()) {
                    return false;
                }
                draft.add(what, sign, number);
            }
            for (int i = open; i < inner; i++) {
                draft.add(Bar.NOT, 0, 0);
            }
            return true;
        }

        /** The place of the sign among those, or -1: then it is not taken. */
        private int takesOneOf(String signs) {
            int next = sign();
            for (int i = 0; i < signs.length(); i++) {
                if (signs.charAt(i) == next) {
                    at++;
                    return i;
                }
            }
            return -1;
        }

        private boolean isWord(String word) {
            for (int i = 0; i < word.length(); i++) {
                if (!takes(word.charAt(i))) {
                    return false;
                }
            }
            return true;
        }

        private boolean isNumberNext() {
            int first = sign() - '0';
            if (first < 0 || first > 9) {
                return false;
            }
            at++;
            number = first;
            int second = sign() - '0';
            if (first != 0 && second >= 0 && second <= 9) {
                at++;
                number = first * 10 + second;
            }
            return true;
        }

        private boolean takes(int wanted) {
            if (sign() != wanted) {
                return false;
            }
            at++;
            return true;
        }

        private int sign() {
            return at >= 0 && at < size && at < tape.length ? tape[at] : -1;
        }
    }

    /** All that a tide looks at and changes. */
    private static final class Shore {
        final Bar bar = new Bar();
        final Things things = new Things();
        final int[] winds = {5, 5, 5, 5};
        final int[] agenda = new int[MOTIONS];
        int agendaSize;
        int carried;
        int tide;
        private final int[] facts = new int[Bar.FACTS];

        boolean hasOnAgenda(int motion) {
            for (int i = 0; i < agendaSize; i++) {
                if (cell(agenda, i) == motion) {
                    return true;
                }
            }
            return false;
        }

        int thoseIn() {
            int reach = cell(winds, tide % WINDS) + 3 * bit(carried, 0);
            int in = 0;
            for (int i = 0; i < things.size; i++) {
                in = withBit(in, i, bit(things.lost, i) == 0 && cell(things.drift, i) <= reach);
            }
            return in;
        }

        void goTides(int n) {
            for (int i = 0; i < n; i++) {
                goTide();
            }
        }

        void goTide() {
            int in = thoseIn();
            if (Integer.bitCount(in) >= bar.quorum) {
                for (int i = 0; i < agendaSize && i < agenda.length; i++) {
                    carried = withBit(carried, agenda[i], isVotedFor(agenda[i], in));
                }
            }
            tide++;
        }

        private boolean isVotedFor(int motion, int in) {
            int balance = 0;
            for (int i = 0; i < things.size; i++) {
                int liked = bit(in, i) == 0 ? 0 : likes(i, motion);
                int side = liked > 0 ? 1 : liked < 0 ? -1 : 0;
                balance += side * cell(things.weight, i);
            }
            return balance > 0;
        }

        int likes(int thing, int motion) {
            int kind = cell(things.kind, thing);
            int v = cell(things.v, thing);
            int howManyCarried = Integer.bitCount(carried);
            put(facts, Bar.P, thing);
            put(facts, Bar.K, kind);
            put(facts, Bar.V, v);
            put(facts, Bar.M, motion);
            put(facts, Bar.C, howManyCarried);
            put(facts, Bar.T, tide % 10);
            int sum = bar.sum(facts);
            switch (kind) {
                case CHAIR: return likesOfChair(sum, v, motion);
                case CASK: return likesOfCask(sum);
                case BOOT: return sum / 2;
                case THRONE: return likesOfChair(sum, v, motion) - 2 * howManyCarried;
                case HARMONIUM: return likesOfCask(sum) + v;
                case TOLD: return sum / 2 + cell(things.rows, thing * TOLD_ROW + motion % TOLD_ROW) - 4;
                default: return sum;
            }
        }

        private int likesOfChair(int sum, int v, int motion) {
            return motion % 2 == 0 ? sum + v : sum;
        }

        private int likesOfCask(int sum) {
            return tide % 2 == 1 ? -sum : sum;
        }

        /** For a trial that is tried anew: a tide changes nothing else. */
        void goBackTo(Shore other) {
            carried = other.carried;
            tide = other.tide;
        }

        void copyFrom(Shore other) {
            bar.copyFrom(other.bar);
            things.copyFrom(other.things);
            copy(other.winds, winds);
            copy(other.agenda, agenda);
            agendaSize = other.agendaSize;
            goBackTo(other);
        }
    }

    /** Rows of up to three numbers told by hand: SEEN, THE PLAN, BOOK. */
    private static final class Rows {
        final int[] first;
        final int[] second;
        final int[] third;
        int size;

        Rows(int most) {
            int length = Math.max(most, 0);
            first = new int[length];
            second = new int[length];
            third = new int[length];
        }

        int add(int a, int b, int c) {
            if (size >= first.length) {
                return FULL;
            }
            put(first, size, a);
            put(second, size, b);
            put(third, size, c);
            size++;
            return size;
        }

        int greatestSecond() {
            int greatest = 0;
            for (int i = 0; i < size; i++) {
                greatest = Math.max(greatest, cell(second, i));
            }
            return greatest;
        }

        void copyFrom(Rows other) {
            copy(other.first, first);
            copy(other.second, second);
            copy(other.third, third);
            size = other.size;
        }
    }

    /** All that an image holds. Of the bars only the newest can ever hold again, so the others are but counted. */
    private static final class Everything {
        final Shore shore = new Shore();
        final int[] tape = new int[MOST_SIGNS];
        int signs;
        int bars;
        final Rows seen = new Rows(MOST_SEEN);
        final Rows plan = new Rows(MOST_ROWS);
        final Rows book = new Rows(MOST_ROWS);

        void copyFrom(Everything other) {
            shore.copyFrom(other.shore);
            copy(other.tape, tape);
            signs = other.signs;
            bars = other.bars;
            seen.copyFrom(other.seen);
            plan.copyFrom(other.plan);
            book.copyFrom(other.book);
        }
    }

    /** The thing that acts, and which bodies ran. */
    private static final class Acts {
        final int[] bodies = new int[MOST_TRACED];
        int ran;
        int number;
        int kind;
        int v;

        /** Runs the body that the kind from, or the next one above it, has for the act. */
        private static int run(Acts a, int act, int from, int x, int depth) {
            int owner = ownerOf(act, from);
            if (owner < 0 || depth > MOST_BODIES_OPEN) {
                return 0;
            }
            int body = cell(BODIES, act * KINDS + owner);
            int above = cell(ABOVE, owner);
            put(a.bodies, a.ran, body);
            a.ran++;
            switch (body) {
                case 1: return x + a.number;
                case 2: return run(a, BOBS, a.kind, x, depth + 1) - a.v;
                case 3: return run(a, SITS, a.kind, x, depth + 1) * 2;
                case 11: return run(a, BOBS, above, x * 3, depth + 1);
                case 21: return -run(a, SITS, above, x, depth + 1);
                case 31: return run(a, VOTES, above, x, depth + 1) ^ 7;
                case 41: return run(a, VOTES, above, x - 1, depth + 1) + run(a, BOBS, a.kind, 2, depth + 1);
                case 51: return run(a, BOBS, above, x, depth + 1) ^ a.number;
                case 61: return run(a, SITS, above, x, depth + 1) + a.v;
                default: return 0;
            }
        }

        private static int ownerOf(int act, int from) {
            int kind = from;
            for (int i = 0; i < KINDS && kind >= 0; i++) {
                if (cell(BODIES, act * KINDS + kind) != 0) {
                    return kind;
                }
                kind = cell(ABOVE, kind);
            }
            return -1;
        }
    }
}
