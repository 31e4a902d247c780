import java.util.ArrayList;
import java.util.Collections;
import java.util.List;

/**
 * The document told once more, as naively as can be, to be held against the program: bars are kept as texts and
 * asked as texts, rows of things are all walked, acts are plain Java methods of plain Java subclasses.
 */
final class Model {
    static final int NONE = -1, BAD = -2, STATE = -3, FULL = -4;
    static final long NO = Long.MIN_VALUE;

    static class Thing {
        int i, kind, v, weight = 1, drift;
        boolean lost;
        int[] row = new int[4];
        List<Integer> ran = new ArrayList<>();

        int bobs(int x) { ran.add(1); return x + i; }
        int sits(int x) { ran.add(2); return bobs(x) - v; }
        int votes(int x) { ran.add(3); return sits(x) * 2; }
    }

    static class Chair extends Thing {
        @Override int bobs(int x) { ran.add(11); return super.bobs(x * 3); }
    }

    static class Cask extends Thing {
        @Override int sits(int x) { ran.add(21); return -super.sits(x); }
    }

    static class Boot extends Thing {
        @Override int votes(int x) { ran.add(31); return super.votes(x) ^ 7; }
    }

    static final class Throne extends Chair {
        @Override int votes(int x) { ran.add(41); return super.votes(x - 1) + bobs(2); }
    }

    static final class Harmonium extends Cask {
        @Override int bobs(int x) { ran.add(51); return super.bobs(x) ^ i; }
    }

    static final class Told extends Boot {
        @Override int sits(int x) { ran.add(61); return super.sits(x) + v; }
    }

    private List<Thing> things = new ArrayList<>();
    private List<String> bars = new ArrayList<>();
    private String tape = "";
    private int[] winds = {5, 5, 5, 5};
    private List<Integer> agenda = new ArrayList<>();
    private boolean[] carried = new boolean[5];
    private int tide = 0;
    private List<int[]> seen = new ArrayList<>();
    private List<int[]> plan = new ArrayList<>();
    private List<int[]> book = new ArrayList<>();
    private List<Integer> trace = new ArrayList<>();
    private Model image = null;

    private static Thing made(int kind) {
        switch (kind) {
            case 1: return new Chair();
            case 2: return new Cask();
            case 3: return new Boot();
            case 4: return new Throne();
            case 5: return new Harmonium();
            case 6: return new Told();
            default: return new Thing();
        }
    }

    private Model copied() {
        Model m = new Model();
        for (Thing t : things) {
            Thing c = made(t.kind);
            c.i = t.i;
            c.kind = t.kind;
            c.v = t.v;
            c.weight = t.weight;
            c.drift = t.drift;
            c.lost = t.lost;
            c.row = t.row.clone();
            m.things.add(c);
        }
        m.bars.addAll(bars);
        m.tape = tape;
        m.winds = winds.clone();
        m.agenda.addAll(agenda);
        m.carried = carried.clone();
        m.tide = tide;
        m.seen.addAll(seen);
        m.plan.addAll(plan);
        m.book.addAll(book);
        return m;
    }

    // ---- bars as texts

    /** A machine that takes one sign after the other: the first one it can't take is the fault. */
    static int fault(String text) {
        String state = "start";
        String word = "";
        String heldOpen = "";
        int clauses = 0;
        for (int at = 0; at < text.length(); at++) {
            char c = text.charAt(at);
            boolean isDigit = c >= '0' && c <= '9';
            boolean isLong = state.equals("zero") || state.equals("two");
            if (state.equals("one") && isDigit) {
                state = "two";
                continue;
            }
            if (state.equals("one") || isLong) {
                state = word.equals("quorum ") ? "clause ends" : word.endsWith(" E") ? "test ends" : "blank";
            }
            switch (state) {
                case "start":
                    word += c;
                    if ("quorum ".equals(word) || "favour ".equals(word) || "resent ".equals(word)) {
                        state = "number";
                    } else if (!"quorum ".startsWith(word) && !"favour ".startsWith(word)
                            && !"resent ".startsWith(word)) {
                        return at;
                    }
                    break;
                case "number":
                    if (!isDigit) {
                        return at;
                    }
                    state = c == '0' ? "zero" : "one";
                    break;
                case "blank":
                    if (c != ' ') {
                        return at;
                    }
                    word += " E";
                    state = "factor";
                    break;
                case "factor":
                    if (c == '!' || c == '(') {
                        if (heldOpen.length() == 5) {
                            return at;
                        }
                        heldOpen += c;
                    } else if ("pkvmct".indexOf(c) >= 0) {
                        state = "compare";
                    } else {
                        return at;
                    }
                    break;
                case "compare":
                    if ("<=>".indexOf(c) < 0) {
                        return at;
                    }
                    state = "number";
                    break;
                default:
                    if (state.equals("test ends")) {
                        while (heldOpen.endsWith("!")) {
                            heldOpen = heldOpen.substring(0, heldOpen.length() - 1);
                        }
                        if (c == '|' || c == '&') {
                            state = "factor";
                            break;
                        }
                        if (c == ')' && heldOpen.endsWith("(")) {
                            heldOpen = heldOpen.substring(0, heldOpen.length() - 1);
                            break;
                        }
                        if (!heldOpen.isEmpty()) {
                            return at;
                        }
                    }
                    clauses++;
                    if (c != ';' || clauses == 10) {
                        return at;
                    }
                    word = "";
                    state = "start";
                    break;
            }
        }
        while (heldOpen.endsWith("!")) {
            heldOpen = heldOpen.substring(0, heldOpen.length() - 1);
        }
        boolean numberEnds = state.equals("one") || state.equals("two") || state.equals("zero");
        boolean isWhole = numberEnds && (word.equals("quorum ") || word.endsWith(" E")) || state.endsWith(" ends");
        return isWhole && heldOpen.isEmpty() ? -1 : text.length();
    }

    private String barText() {
        return bars.isEmpty() ? "" : bars.get(bars.size() - 1);
    }

    private int quorum() {
        int quorum = 2;
        for (String clause : barText().split(";")) {
            if (clause.startsWith("quorum")) {
                quorum = Integer.parseInt(clause.split(" ")[1]);
            }
        }
        return quorum;
    }

    private int sum(Thing t, int m) {
        int sum = 0;
        for (String clause : barText().split(";")) {
            String[] parts = clause.split(" ");
            if (parts.length == 3 && holds(parts[2], t, m)) {
                sum += (parts[0].equals("favour") ? 1 : -1) * Integer.parseInt(parts[1]);
            }
        }
        return sum;
    }

    /** Splits at a sign that stands in no parenthesis. */
    private static List<String> split(String e, char sign) {
        List<String> parts = new ArrayList<>();
        int open = 0;
        int from = 0;
        for (int i = 0; i < e.length(); i++) {
            open += e.charAt(i) == '(' ? 1 : e.charAt(i) == ')' ? -1 : 0;
            if (open == 0 && e.charAt(i) == sign) {
                parts.add(e.substring(from, i));
                from = i + 1;
            }
        }
        parts.add(e.substring(from));
        return parts;
    }

    private boolean holds(String e, Thing t, int m) {
        List<String> any = split(e, '|');
        if (any.size() > 1) {
            boolean is = false;
            for (String part : any) {
                is |= holds(part, t, m);
            }
            return is;
        }
        List<String> all = split(e, '&');
        if (all.size() > 1) {
            boolean is = true;
            for (String part : all) {
                is &= holds(part, t, m);
            }
            return is;
        }
        if (e.charAt(0) == '!') {
            return !holds(e.substring(1), t, m);
        }
        if (e.charAt(0) == '(') {
            return holds(e.substring(1, e.length() - 1), t, m);
        }
        int n = Integer.parseInt(e.substring(2));
        int fact = e.charAt(0) == 'p' ? t.i : e.charAt(0) == 'k' ? t.kind : e.charAt(0) == 'v' ? t.v
            : e.charAt(0) == 'm' ? m : e.charAt(0) == 'c' ? howManyCarried() : tide % 10;
        return e.charAt(1) == '<' ? fact < n : e.charAt(1) == '=' ? fact == n : fact > n;
    }

    // ---- tides

    private int howManyCarried() {
        return Integer.bitCount(carriedBits());
    }

    private int carriedBits() {
        int bits = 0;
        for (int m = 0; m < 5; m++) {
            bits |= carried[m] ? 1 << m : 0;
        }
        return bits;
    }

    private List<Thing> in() {
        List<Thing> in = new ArrayList<>();
        for (Thing t : things) {
            if (!t.lost && t.drift <= winds[tide % 4] + (carried[0] ? 3 : 0)) {
                in.add(t);
            }
        }
        return in;
    }

    private int inBits() {
        int bits = 0;
        for (Thing t : in()) {
            bits |= 1 << t.i;
        }
        return bits;
    }

    private int likes(Thing t, int m) {
        int likes = sum(t, m);
        if (t instanceof Chair && m % 2 == 0) {
            likes += t.v;
        }
        if (t instanceof Throne) {
            likes -= 2 * howManyCarried();
        }
        if (t instanceof Cask && tide % 2 == 1) {
            likes = 0 - likes;
        }
        if (t instanceof Harmonium) {
            likes += t.v;
        }
        if (t instanceof Boot) {
            likes = likes < 0 ? -(-likes >> 1) : likes >> 1;
        }
        if (t instanceof Told) {
            likes += t.row[m % 4] - 4;
        }
        return likes;
    }

    private Model gone(int n) {
        Model m = copied();
        for (int i = 0; i < n; i++) {
            m.goTide();
        }
        return m;
    }

    private void goTide() {
        List<Thing> in = in();
        if (in.size() >= quorum()) {
            for (int m : agenda) {
                int yes = 0;
                int no = 0;
                for (Thing t : in) {
                    int likes = likes(t, m);
                    yes += likes > 0 ? t.weight : 0;
                    no += likes < 0 ? t.weight : 0;
                }
                carried[m] = yes > no;
            }
        }
        tide++;
    }

    // ---- the face

    int feed(int sign) {
        if (sign < 0 || sign > 127) {
            return BAD;
        }
        if (tape.length() == 100) {
            return FULL;
        }
        tape += (char) sign;
        return tape.length();
    }

    int bar() {
        if (bars.size() == 5) {
            return FULL;
        }
        String text = tape;
        tape = "";
        int fault = fault(text);
        if (fault >= 0) {
            return -10 - fault;
        }
        bars.add(text);
        return bars.size() - 1;
    }

    int thing(int kind, int v, int drift) {
        if (kind < 0 || kind > 6) {
            return NONE;
        }
        if (isBad(v) || isBad(drift)) {
            return BAD;
        }
        if (things.size() == 6) {
            return FULL;
        }
        Thing t = made(kind);
        t.i = things.size();
        t.kind = kind;
        t.v = v;
        t.drift = drift;
        things.add(t);
        return t.i;
    }

    private static boolean isBad(int n) {
        return n < 0 || n > 9;
    }

    private boolean isNoThing(int i) {
        return i < 0 || i >= things.size();
    }

    private static boolean isNoMotion(int m) {
        return m < 0 || m > 4;
    }

    int of(int thing, int what) {
        if (isNoThing(thing) || what < 0 || what > 5 && what < 10 || what > 14) {
            return -999999;
        }
        Thing t = things.get(thing);
        int[] answers = {t.kind, t.v, t.weight, t.drift, t.lost ? 1 : 0, in().contains(t) ? 1 : 0};
        return what < 10 ? answers[what] : likes(t, what - 10);
    }

    int row(int thing, int k, int n) {
        if (isNoThing(thing) || k < 0 || k > 3) {
            return NONE;
        }
        if (isBad(n)) {
            return BAD;
        }
        Thing t = things.get(thing);
        if (!(t instanceof Told)) {
            return STATE;
        }
        int was = t.row[k];
        t.row[k] = n;
        return was;
    }

    int set(int thing, int what, int n) {
        if (isNoThing(thing) || what != 0 && what != 1) {
            return NONE;
        }
        if (isBad(n)) {
            return BAD;
        }
        Thing t = things.get(thing);
        int was = what == 0 ? t.weight : t.drift;
        if (what == 0) {
            t.weight = n;
        } else {
            t.drift = n;
        }
        return was;
    }

    int lose(int thing, boolean is) {
        if (isNoThing(thing)) {
            return NONE;
        }
        boolean was = things.get(thing).lost;
        things.get(thing).lost = is;
        return was ? 1 : 0;
    }

    int wind(int k, int n) {
        if (k < 0 || k > 3) {
            return NONE;
        }
        if (isBad(n)) {
            return BAD;
        }
        int was = winds[k];
        winds[k] = n;
        return was;
    }

    int move(int motion) {
        if (motion == -1) {
            agenda.clear();
            return 0;
        }
        if (isNoMotion(motion)) {
            return NONE;
        }
        if (agenda.contains(motion)) {
            return STATE;
        }
        agenda.add(motion);
        return agenda.size();
    }

    int carry(int motion, boolean is) {
        if (isNoMotion(motion)) {
            return NONE;
        }
        boolean was = carried[motion];
        carried[motion] = is;
        return was ? 1 : 0;
    }

    int told(int what) {
        switch (what) {
            case 0: return tide;
            case 1: return quorum();
            case 2: return carriedBits();
            case 3: return inBits();
            case 4: return still();
            case 10: case 11: case 12: case 13: return winds[what - 10];
            default: return NONE;
        }
    }

    private int still() {
        int[] after = new int[61];
        Model m = copied();
        for (int n = 0; n <= 60; n++) {
            after[n] = m.carriedBits();
            m.goTide();
        }
        for (int n = 0; n <= 40; n++) {
            boolean isStill = true;
            for (int more = 1; more <= 20; more++) {
                isStill &= after[n + more] == after[n];
            }
            if (isStill) {
                return n;
            }
        }
        return -5;
    }

    int pass(int n) {
        if (n < 0 || n > 60) {
            return BAD;
        }
        if (tide + n > 9999) {
            return STATE;
        }
        for (int i = 0; i < n; i++) {
            goTide();
        }
        return tide;
    }

    int on(int n, int what) {
        if (what != 0 && what != 1) {
            return NONE;
        }
        if (n < 0 || n > 60) {
            return BAD;
        }
        return what == 0 ? gone(n).carriedBits() : gone(n).inBits();
    }

    int when(int motion) {
        if (isNoMotion(motion)) {
            return NONE;
        }
        Model m = copied();
        for (int n = 0; n <= 60; n++) {
            if (m.carried[motion]) {
                return n;
            }
            m.goTide();
        }
        return -5;
    }

    int order(int set, int k) {
        if (k < -1 || k > 4) {
            return NONE;
        }
        if (set < 0 || set > 31) {
            return BAD;
        }
        int most = -1;
        List<Integer> best = null;
        for (int code = 0; code < 100000; code++) {
            List<Integer> row = new ArrayList<>();
            for (int at = 10000; at > 0; at /= 10) {
                int digit = code / at % 10;
                if (digit < 5 && !row.contains(digit)) {
                    row.add(digit);
                }
            }
            if (row.size() < 5) {
                continue;
            }
            Model m = copied();
            m.agenda = row;
            m.goTide();
            int so = 0;
            for (int motion = 0; motion < 5; motion++) {
                so += m.carried[motion] == ((set & 1 << motion) != 0) ? 1 : 0;
            }
            if (so > most) {
                most = so;
                best = row;
            }
        }
        return k == -1 ? most : best.get(k);
    }

    int blows(int motion) {
        if (isNoMotion(motion)) {
            return NONE;
        }
        int bits = 0;
        for (int w = 0; w < 10; w++) {
            Model m = copied();
            m.winds[tide % 4] = w;
            m.goTide();
            bits |= m.carried[motion] ? 1 << w : 0;
        }
        return bits;
    }

    int stop(int motion) {
        if (isNoMotion(motion)) {
            return NONE;
        }
        for (int size = 0; size <= things.size(); size++) {
            for (int set = 0; set < 1 << things.size(); set++) {
                if (Integer.bitCount(set) != size) {
                    continue;
                }
                Model m = copied();
                for (Thing t : m.things) {
                    t.lost |= (set & 1 << t.i) != 0;
                }
                m.goTide();
                if (!m.carried[motion]) {
                    return set;
                }
            }
        }
        return -5;
    }

    int see(int motion, int n, boolean isCarried) {
        if (motion == -1) {
            seen.clear();
            return 0;
        }
        if (isNoMotion(motion)) {
            return NONE;
        }
        if (n < 0 || n > 20) {
            return BAD;
        }
        if (seen.size() == 5) {
            return FULL;
        }
        seen.add(new int[] {motion, n, isCarried ? 1 : 0});
        return seen.size();
    }

    private boolean isAllSeen() {
        for (int[] s : seen) {
            if (gone(s[1]).carried[s[0]] != (s[2] == 1)) {
                return false;
            }
        }
        return true;
    }

    int drifts(int thing) {
        if (isNoThing(thing)) {
            return NONE;
        }
        int bits = 0;
        for (int n = 0; n < 10; n++) {
            Model m = copied();
            m.seen = seen;
            m.things.get(thing).drift = n;
            bits |= m.isAllSeen() ? 1 << n : 0;
        }
        return bits;
    }

    int firm(int thing, int what) {
        if (isNoThing(thing) || what != 0 && what != 1) {
            return NONE;
        }
        List<Integer> numbers = new ArrayList<>();
        for (int n = 0; n < 10; n++) {
            Model m = copied();
            m.things.get(thing).v = n;
            if (m.isAllSeen()) {
                numbers.add(n);
            }
        }
        return what == 0 ? numbers.size() : numbers.isEmpty() ? -5 : Collections.min(numbers);
    }

    private static long lowest(int above, int below, int part) {
        for (int d = Math.max(above, below); d > 1; d--) {
            if (above % d == 0 && below % d == 0) {
                above /= d;
                below /= d;
            }
        }
        return part == 0 ? above : below;
    }

    private long[] turned(List<Thing> ahead, List<Thing> rest, Thing one, int all) {
        if (rest.isEmpty()) {
            int sum = 0;
            for (Thing t : ahead) {
                if (t == one) {
                    break;
                }
                sum += t.weight;
            }
            return new long[] {2 * sum <= all && 2 * (sum + one.weight) > all ? 1 : 0, 1};
        }
        long[] both = {0, 0};
        for (Thing t : rest) {
            List<Thing> more = new ArrayList<>(ahead);
            more.add(t);
            List<Thing> less = new ArrayList<>(rest);
            less.remove(t);
            long[] of = turned(more, less, one, all);
            both[0] += of[0];
            both[1] += of[1];
        }
        return both;
    }

    long power(int thing, int part) {
        if (isNoThing(thing) || part != 0 && part != 1) {
            return NO;
        }
        Thing one = things.get(thing);
        if (!in().contains(one)) {
            return lowest(0, 1, part);
        }
        int all = 0;
        for (Thing t : in()) {
            all += t.weight;
        }
        long[] rows = turned(new ArrayList<>(), in(), one, all);
        return lowest((int) rows[0], (int) rows[1], part);
    }

    long odds(int motion, int part) {
        if (isNoMotion(motion) || part != 0 && part != 1) {
            return NO;
        }
        return lowest(Integer.bitCount(blows(motion)), 10, part);
    }

    long mean(int part) {
        if (part != 0 && part != 1 || in().isEmpty()) {
            return NO;
        }
        int all = 0;
        for (Thing t : in()) {
            all += t.weight;
        }
        return lowest(all, in().size(), part);
    }

    int plan(int what, int n) {
        if (what == -1) {
            plan.clear();
            return 0;
        }
        if (what < 0 || what > 3 || (what == 1 || what == 2) && isNoThing(n) || what == 3 && isNoMotion(n)) {
            return NONE;
        }
        if (plan.size() == 8) {
            return FULL;
        }
        plan.add(new int[] {what, n});
        return plan.size();
    }

    int done(int what) {
        if (what != 0 && what != 1) {
            return NONE;
        }
        Model m = copied();
        for (int[] p : plan) {
            if (p[0] == 0) {
                m.goTide();
            } else if (p[0] == 3) {
                m.carried[p[1]] = false;
            } else {
                m.things.get(p[1]).lost = p[0] == 1;
            }
        }
        return what == 0 ? m.carriedBits() : m.inBits();
    }

    int book(int thing, int drift) {
        if (thing == -1) {
            book.clear();
            return 0;
        }
        if (isNoThing(thing)) {
            return NONE;
        }
        if (isBad(drift)) {
            return BAD;
        }
        if (book.size() == 8) {
            return FULL;
        }
        book.add(new int[] {thing, drift});
        return book.size();
    }

    int looked() {
        for (int[] b : book) {
            if (things.get(b[0]).drift != b[1]) {
                return book.indexOf(b);
            }
        }
        return -5;
    }

    int act(int thing, int act, int x) {
        trace = new ArrayList<>();
        if (isNoThing(thing) || act < 0 || act > 2) {
            return 0;
        }
        Thing t = things.get(thing);
        t.ran = trace;
        return act == 0 ? t.bobs(x) : act == 1 ? t.sits(x) : t.votes(x);
    }

    int trace(int i) {
        return i < 0 || i >= Math.min(20, trace.size()) ? NONE : trace.get(i);
    }

    int as(int thing, int k) {
        if (isNoThing(thing) || k < 0 || k > 6) {
            return NONE;
        }
        Thing t = things.get(thing);
        return made(k).getClass().isInstance(t) ? t.v : -6;
    }

    int image() {
        image = copied();
        return things.size();
    }

    int undo() {
        if (image == null) {
            return STATE;
        }
        Model m = image.copied();
        things = m.things;
        bars = m.bars;
        tape = m.tape;
        winds = m.winds;
        agenda = m.agenda;
        carried = m.carried;
        tide = m.tide;
        seen = m.seen;
        plan = m.plan;
        book = m.book;
        return things.size();
    }

    int count(int what) {
        int[] sizes = {things.size(), bars.size(), agenda.size(), seen.size(), plan.size(), book.size(),
            tape.length(), trace.size()};
        return what < 0 || what > 7 ? NONE : sizes[what];
    }
}
