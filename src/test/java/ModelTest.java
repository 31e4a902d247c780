/** Long mixed runs of calls, made by a counter with fixed starts, on the program and on the model side by side. */
public final class ModelTest {
    private static final int RUNS = 600;
    private static final int CALLS = 512;

    private long state;
    private final FlotsamQuorum x = new FlotsamQuorum();
    private final Model m = new Model();
    private final StringBuilder calls = new StringBuilder();

    private ModelTest(long start) {
        state = start * 0x9E3779B97F4A7C15L + 1;
    }

    public static void main(String[] args) {
        int failed = 0;
        for (int run = 1; run <= RUNS; run++) {
            if (!new ModelTest(run).runsAlike(run)) {
                failed++;
            }
        }
        System.out.println("ModelTest: " + (RUNS - failed) + " runs as the model, " + failed + " not");
        if (failed > 0) {
            System.exit(1);
        }
    }

    private int any(int below) {
        state = state * 6364136223846793005L + 1442695040888963407L;
        return (int) ((state >>> 33) % below);
    }

    /** Mostly from low to high, now and then just beside, and seldom far off. */
    private int about(int low, int high) {
        int chance = any(60);
        if (chance == 0) {
            return low - 1 - any(2);
        }
        if (chance == 1) {
            return high + 1 + any(2);
        }
        if (chance == 2) {
            int[] far = {Integer.MIN_VALUE, Integer.MAX_VALUE, -1000000, 1000000, -1, 100};
            return far[any(far.length)];
        }
        return low + any(high - low + 1);
    }

    private boolean flip() {
        return any(2) == 0;
    }

    private boolean runsAlike(int run) {
        boolean isLateFirst = any(4) == 0;
        int made = 0;
        while (made < CALLS) {
            if (any(40) == 0 && made < CALLS - 120) {
                String text = text();
                for (int i = 0; i < text.length(); i++) {
                    made++;
                    if (!isSame(run, "feed(" + text.charAt(i) + ")", x.feed(text.charAt(i)), m.feed(text.charAt(i)))) {
                        return false;
                    }
                }
                if (!isSame(run, "bar() of " + text, x.bar(), m.bar())) {
                    return false;
                }
                made++;
            } else if (!isCallSame(run, made < 30 && !isLateFirst ? any(12) : any(41))) {
                return false;
            }
            made++;
        }
        return true;
    }

    private boolean isSame(int run, String call, long got, long due) {
        calls.append(call).append(" = ").append(due).append('\n');
        if (got != due) {
            System.out.println("run " + run + ":\n" + calls + "but the program answered " + got);
        }
        return got == due;
    }

    // ---- texts of bars

    private String text() {
        StringBuilder text = new StringBuilder();
        int clauses = any(12) == 0 ? 9 + any(4) : 1 + any(4);
        for (int i = 0; i < clauses; i++) {
            text.append(i == 0 ? "" : ";");
            if (any(5) == 0 || clauses > 8) {
                text.append("quorum ").append(clauses > 8 || flip() ? any(4) : any(100));
            } else {
                text.append(any(3) == 0 ? "resent " : "favour ").append(any(3) == 0 ? any(100) : any(10)).append(' ');
                expression(text, any(6) == 0 ? 6 : 3);
            }
        }
        int spoiled = any(4) == 0 ? 1 + any(2) : 0;
        String signs = "qufavor esnt;0123456789pkvmct<=>!()|& x";
        for (int i = 0; i < spoiled && text.length() > 0; i++) {
            int at = any(text.length());
            char sign = signs.charAt(any(signs.length()));
            int how = any(4);
            if (how == 0) {
                text.setCharAt(at, sign);
            } else if (how == 1) {
                text.insert(at, sign);
            } else if (how == 2) {
                text.deleteCharAt(at);
            } else {
                text.setLength(at);
            }
        }
        if (any(3) > 0 && text.length() > 100) {
            text.setLength(0);
            text.append("quorum 1;favour 3 p<4|!t>5&k=2;resent 4 m=1|c>1");
        }
        return text.toString();
    }

    private void expression(StringBuilder text, int depth) {
        int terms = 1 + (any(3) == 0 ? 1 : 0);
        for (int i = 0; i < terms; i++) {
            text.append(i == 0 ? "" : "|");
            int factors = 1 + (any(3) == 0 ? 1 : 0);
            for (int j = 0; j < factors; j++) {
                text.append(j == 0 ? "" : "&");
                factor(text, depth);
            }
        }
    }

    private void factor(StringBuilder text, int depth) {
        int how = any(depth > 3 ? 3 : 6);
        if (how == 0 && depth > 0) {
            text.append('!');
            factor(text, depth - 1);
        } else if (how == 1 && depth > 0) {
            text.append('(');
            expression(text, depth - 1);
            text.append(')');
        } else {
            text.append("pkvmct".charAt(any(6))).append("<=>".charAt(any(3)));
            text.append(any(12) == 0 ? any(100) : any(7));
        }
    }

    // ---- single calls

    private boolean isCallSame(int run, int which) {
        if (which < 12) {
            return isTellingSame(run, which);
        }
        if (which < 26) {
            return isAskingSame(run, which);
        }
        return isRestSame(run, which);
    }

    private boolean isTellingSame(int run, int which) {
        int a = about(0, 5);
        int b = about(0, 9);
        int c = about(0, 9);
        boolean is = flip();
        switch (which) {
            case 0: case 1:
                int kind = about(0, 6);
                return isSame(run, "thing(" + kind + ", " + b + ", " + c + ")", x.thing(kind, b, c), m.thing(kind, b, c));
            case 2:
                int k = about(0, 3);
                return isSame(run, "row(" + a + ", " + k + ", " + c + ")", x.row(a, k, c), m.row(a, k, c));
            case 3: case 4:
                int what = about(0, 1);
                return isSame(run, "set(" + a + ", " + what + ", " + c + ")", x.set(a, what, c), m.set(a, what, c));
            case 5:
                is &= flip();
                return isSame(run, "lose(" + a + ", " + is + ")", x.lose(a, is), m.lose(a, is));
            case 6:
                int w = about(0, 3);
                return isSame(run, "wind(" + w + ", " + b + ")", x.wind(w, b), m.wind(w, b));
            case 7: case 8: case 9:
                int motion = any(30) == 0 ? -1 : about(0, 4);
                return isSame(run, "move(" + motion + ")", x.move(motion), m.move(motion));
            case 10:
                int of = about(0, 4);
                return isSame(run, "carry(" + of + ", " + is + ")", x.carry(of, is), m.carry(of, is));
            default:
                int n = any(4) == 0 ? about(0, 60) : any(4);
                return isSame(run, "pass(" + n + ")", x.pass(n), m.pass(n));
        }
    }

    private boolean isAskingSame(int run, int which) {
        int a = about(0, 5);
        int motion = about(0, 4);
        int what = about(0, 1);
        switch (which) {
            case 12:
                int which2 = flip() ? about(0, 5) : about(10, 14);
                return isSame(run, "of(" + a + ", " + which2 + ")", x.of(a, which2), m.of(a, which2));
            case 13: case 14:
                int told = any(3) == 0 ? about(10, 13) : about(0, 4);
                return isSame(run, "told(" + told + ")", x.told(told), m.told(told));
            case 15:
                int n = any(3) == 0 ? about(0, 60) : any(9);
                return isSame(run, "on(" + n + ", " + what + ")", x.on(n, what), m.on(n, what));
            case 16:
                return isSame(run, "when(" + motion + ")", x.when(motion), m.when(motion));
            case 17:
                if (any(8) != 0) {
                    return true;
                }
                int set = about(0, 31);
                int k = about(-1, 4);
                return isSame(run, "order(" + set + ", " + k + ")", x.order(set, k), m.order(set, k));
            case 18:
                return isSame(run, "blows(" + motion + ")", x.blows(motion), m.blows(motion));
            case 19:
                return isSame(run, "stop(" + motion + ")", x.stop(motion), m.stop(motion));
            case 20:
                int seen = any(12) == 0 ? -1 : motion;
                int tides = flip() ? about(0, 20) : any(4);
                boolean is = any(20) == 0 ? flip() : (m.on(Math.min(20, Math.max(0, tides)), 0) >> (motion & 7) & 1) == 1;
                return isSame(run, "see(" + seen + ", " + tides + ", " + is + ")", x.see(seen, tides, is), m.see(seen, tides, is));
            case 21:
                return isSame(run, "drifts(" + a + ")", x.drifts(a), m.drifts(a));
            case 22:
                return isSame(run, "firm(" + a + ", " + what + ")", x.firm(a, what), m.firm(a, what));
            case 23:
                return isSame(run, "power(" + a + ", " + what + ")", x.power(a, what), m.power(a, what));
            case 24:
                return isSame(run, "odds(" + motion + ", " + what + ")", x.odds(motion, what), m.odds(motion, what));
            default:
                return isSame(run, "mean(" + what + ")", x.mean(what), m.mean(what));
        }
    }

    private boolean isRestSame(int run, int which) {
        int a = about(0, 5);
        int b = about(0, 9);
        int what = about(0, 1);
        switch (which) {
            case 26: case 27:
                int does = any(12) == 0 ? -1 : about(0, 3);
                int n = any(4) == 0 ? any(9) : any(5);
                return isSame(run, "plan(" + does + ", " + n + ")", x.plan(does, n), m.plan(does, n));
            case 28:
                return isSame(run, "done(" + what + ")", x.done(what), m.done(what));
            case 29:
                int thing = any(12) == 0 ? -1 : a;
                int drift = any(3) == 0 ? b : Math.max(0, m.of(a, 3));
                return isSame(run, "book(" + thing + ", " + drift + ")", x.book(thing, drift), m.book(thing, drift));
            case 30:
                return isSame(run, "looked()", x.looked(), m.looked());
            case 31: case 32:
                int act = about(0, 2);
                int with = any(5) == 0 ? any(Integer.MAX_VALUE) * (flip() ? 1 : -2) : any(20) - 10;
                return isSame(run, "act(" + a + ", " + act + ", " + with + ")", x.act(a, act, with), m.act(a, act, with));
            case 33: case 34:
                int i = about(0, 6);
                return isSame(run, "trace(" + i + ")", x.trace(i), m.trace(i));
            case 35:
                int k = about(0, 6);
                return isSame(run, "as(" + a + ", " + k + ")", x.as(a, k), m.as(a, k));
            case 36:
                return any(3) != 0 || isSame(run, "image()", x.image(), m.image());
            case 37:
                return any(3) != 0 || isSame(run, "undo()", x.undo(), m.undo());
            case 38: case 39:
                int of = about(0, 7);
                return isSame(run, "count(" + of + ")", x.count(of), m.count(of));
            default:
                int sign = any(5) == 0 ? about(0, 127) : "quorum 12;".charAt(m.count(6) % 10);
                return isSame(run, "feed(" + sign + ")", x.feed(sign), m.feed(sign));
        }
    }
}
