import java.util.ArrayList;
import java.util.List;

/**
 * Each refusal of each call, the last value that is taken beside it, of two refusals that are both due the one told
 * first; and that what is refused, or but asked, has changed nothing: a twin that was never asked answers alike.
 */
public final class RefusalTest {
    private static final int NONE = -1, BAD = -2, STATE = -3, FULL = -4, NONE_BELOW_0 = -999999;
    private static final long NO = Long.MIN_VALUE;
    private static final int MIN = Integer.MIN_VALUE, MAX = Integer.MAX_VALUE;

    private interface Call {
        long on(FlotsamQuorum x);
    }

    private interface Way {
        FlotsamQuorum made();
    }

    public static void main(String[] args) {
        tapes();
        things();
        rows();
        winds();
        tides();
        asked();
        seen();
        fractions();
        plans();
        acts();
        images();
        whatIsAskedChangesNothing();
        Check.end("RefusalTest");
    }

    // ---- how a refusal is looked at

    private static void refused(String what, Way way, long want, Call call) {
        FlotsamQuorum x = way.made();
        Check.due("refusal of " + what, call.on(x), want);
        Check.due("changed nothing: " + what, view(x), view(way.made()));
    }

    private static void taken(String what, Way way, long want, Call call) {
        Check.due("still taken: " + what, call.on(way.made()), want);
    }

    private static int[] beside(int low, int high) {
        return new int[] {low - 1, high + 1, low - 2, high + 2, MIN, MAX};
    }

    /** Behind those beside a MOTION or a THING, where -1 empties a row. */
    private static int[] besideButLess(int high) {
        return new int[] {-2, high + 1, MIN, MAX};
    }

    // ---- all that can be told of an object; ends with what its tape and its image hold

    private static String view(FlotsamQuorum x) {
        StringBuilder trace = new StringBuilder();
        for (int i = 0; i < 8; i++) {
            trace.append(" trace").append(i).append('=').append(x.trace(i));
        }
        trace.append(" ran=").append(x.count(7));
        return trace + viewWithoutTrace(x);
    }

    private static String viewWithoutTrace(FlotsamQuorum x) {
        StringBuilder all = new StringBuilder();
        look(x, all);
        all.append(" bar=").append(x.bar()).append(" then ").append(x.told(1)).append(',').append(x.count(1));
        all.append(" undo=").append(x.undo());
        look(x, all);
        return all.toString();
    }

    private static void look(FlotsamQuorum x, StringBuilder all) {
        for (int what = 0; what < 7; what++) {
            all.append(" count").append(what).append('=').append(x.count(what));
        }
        for (int what = 0; what < 14; what++) {
            all.append(" told").append(what).append('=').append(x.told(what));
        }
        for (int i = 0; i < x.count(0); i++) {
            for (int what = 0; what < 15; what++) {
                all.append(' ').append(x.of(i, what));
            }
            all.append(" drifts=").append(x.drifts(i));
        }
        all.append(" on=").append(x.on(1, 0)).append(',').append(x.on(2, 1));
        all.append(" done=").append(x.done(0)).append(',').append(x.done(1));
        all.append(" looked=").append(x.looked());
    }

    // ---- objects as they are to be

    private static FlotsamQuorum fresh() {
        return new FlotsamQuorum();
    }

    /** Something of everything, and room for more of it; the tape is a bar as it stands; the image is otherwise. */
    private static FlotsamQuorum rich() {
        FlotsamQuorum x = new FlotsamQuorum();
        x.thing(0, 3, 2);
        x.thing(6, 4, 5);
        x.row(1, 1, 7);
        x.book(0, 2);
        x.image();
        x.thing(4, 5, 4);
        x.thing(2, 1, 8);
        Check.bar(x, "quorum 2;favour 3 m=1|t=2;resent 2 p=1");
        x.set(2, 0, 4);
        x.lose(3, true);
        x.wind(1, 7);
        x.move(2);
        x.move(0);
        x.carry(4, true);
        x.pass(3);
        x.see(4, 2, true);
        x.see(2, 1, false);
        x.plan(0, 0);
        x.plan(1, 0);
        x.book(2, 5);
        x.act(2, 2, 9);
        Check.feed(x, "quorum 4");
        return x;
    }

    private static FlotsamQuorum fullTape() {
        FlotsamQuorum x = rich();
        for (int i = x.count(6); i < 100; i++) {
            x.feed('z');
        }
        return x;
    }

    private static FlotsamQuorum fullBars() {
        FlotsamQuorum x = fresh();
        for (int i = 0; i < 5; i++) {
            Check.bar(x, "quorum " + i);
        }
        Check.feed(x, "quorum 9");
        return x;
    }

    private static FlotsamQuorum fullThings() {
        FlotsamQuorum x = rich();
        x.thing(1, 1, 1);
        x.thing(5, 2, 2);
        return x;
    }

    private static FlotsamQuorum fullAgenda() {
        FlotsamQuorum x = rich();
        x.move(4);
        x.move(1);
        x.move(3);
        return x;
    }

    private static FlotsamQuorum fullSeen() {
        FlotsamQuorum x = rich();
        for (int i = 0; i < 3; i++) {
            x.see(i, i, false);
        }
        return x;
    }

    private static FlotsamQuorum fullPlan() {
        FlotsamQuorum x = rich();
        for (int i = 0; i < 6; i++) {
            x.plan(3, i % 5);
        }
        return x;
    }

    private static FlotsamQuorum fullBook() {
        FlotsamQuorum x = rich();
        for (int i = 0; i < 6; i++) {
            x.book(i % 4, i);
        }
        return x;
    }

    /** 9960 TIDES have gone: 40 more would be above 9999. */
    private static FlotsamQuorum late() {
        FlotsamQuorum x = fresh();
        x.thing(0, 0, 0);
        Check.bar(x, "quorum 1;favour 1 t=9");
        x.move(3);
        for (int i = 0; i < 166; i++) {
            x.pass(60);
        }
        return x;
    }

    // ---- 2, 3

    private static void tapes() {
        for (int sign : beside(0, 127)) {
            refused("2: BAD: a sign (0 .. 127): " + sign, RefusalTest::rich, BAD, x -> x.feed(sign));
            refused("2: BAD ahead of FULL: " + sign, RefusalTest::fullTape, BAD, x -> x.feed(sign));
        }
        taken("2: sign 0", RefusalTest::rich, 9, x -> x.feed(0));
        taken("2: sign 127", RefusalTest::rich, 9, x -> x.feed(127));
        refused("2: FULL: 100 at most", RefusalTest::fullTape, FULL, x -> x.feed('q'));
        refused("2: FULL, sign 0", RefusalTest::fullTape, FULL, x -> x.feed(0));
        refused("2: FULL, sign 127", RefusalTest::fullTape, FULL, x -> x.feed(127));
        refused("3: FULL: 5 at most", RefusalTest::fullBars, FULL, FlotsamQuorum::bar);
        FlotsamQuorum x = fullBars();
        x.feed('?');
        Check.due("3: FULL ahead of a FAULT", x.bar(), FULL);
        Check.due("3: THE TAPE stays", x.count(6), 9);
        FlotsamQuorum y = new FlotsamQuorum();
        for (int i = 0; i < 5; i++) {
            Check.bar(y, "quorum 1");
        }
        Check.due("3: FULL ahead of a FAULT, THE TAPE empty", y.bar(), FULL);
        FlotsamQuorum z = rich();
        z.feed('?');
        Check.due("3: a FAULT", z.bar(), -18);
        Check.due("3: THE TAPE is empty then", z.count(6), 0);
        Check.due("3: no number by a FAULT", z.count(1), 1);
        Check.due("3: the one that held holds", z.told(1), 2);
        Check.due("3: its CLAUSES, too", z.of(0, 11), 3);
    }

    // ---- 4 .. 8

    private static void things() {
        for (int kind : beside(0, 6)) {
            refused("4: NONE: kind " + kind, RefusalTest::rich, NONE, x -> x.thing(kind, 0, 0));
            refused("4: NONE ahead of BAD: kind " + kind, RefusalTest::rich, NONE, x -> x.thing(kind, 10, -1));
            refused("4: NONE ahead of FULL: kind " + kind, RefusalTest::fullThings, NONE, x -> x.thing(kind, 0, 0));
        }
        for (int n : beside(0, 9)) {
            refused("4: BAD: v " + n, RefusalTest::rich, BAD, x -> x.thing(0, n, 0));
            refused("4: BAD: drift " + n, RefusalTest::rich, BAD, x -> x.thing(6, 9, n));
            refused("4: BAD ahead of FULL: v " + n, RefusalTest::fullThings, BAD, x -> x.thing(0, n, 0));
            refused("4: BAD ahead of FULL: drift " + n, RefusalTest::fullThings, BAD, x -> x.thing(0, 0, n));
        }
        refused("4: FULL: 6", RefusalTest::fullThings, FULL, x -> x.thing(0, 0, 0));
        taken("4: the last of all values", RefusalTest::rich, 4, x -> x.thing(6, 9, 9));
        taken("4: the first of all values", RefusalTest::rich, 4, x -> x.thing(0, 0, 0));
        for (int i : beside(0, 3)) {
            refused("5: -999999: thing " + i, RefusalTest::rich, NONE_BELOW_0, x -> x.of(i, 0));
            refused("5: -999999: LIKES of thing " + i, RefusalTest::rich, NONE_BELOW_0, x -> x.of(i, 10));
            refused("8: NONE: thing " + i, RefusalTest::rich, NONE, x -> x.lose(i, true));
            refused("8: NONE: thing not LOST " + i, RefusalTest::rich, NONE, x -> x.lose(i, false));
        }
        for (int what : new int[] {-1, 6, 7, 8, 9, 15, 16, -10, MIN, MAX}) {
            refused("5: -999999: what " + what, RefusalTest::rich, NONE_BELOW_0, x -> x.of(0, what));
        }
    }

    private static void rows() {
        for (int i : beside(0, 3)) {
            refused("6: NONE: thing " + i, RefusalTest::rich, NONE, x -> x.row(i, 0, 0));
            refused("6: NONE ahead of BAD: thing " + i, RefusalTest::rich, NONE, x -> x.row(i, 0, 10));
            refused("7: NONE: thing " + i, RefusalTest::rich, NONE, x -> x.set(i, 0, 0));
            refused("7: NONE ahead of BAD: thing " + i, RefusalTest::rich, NONE, x -> x.set(i, 1, 10));
        }
        for (int k : beside(0, 3)) {
            refused("6: NONE: k " + k, RefusalTest::rich, NONE, x -> x.row(1, k, 0));
            refused("6: NONE ahead of BAD: k " + k, RefusalTest::rich, NONE, x -> x.row(1, k, -1));
            refused("6: NONE ahead of STATE: k " + k, RefusalTest::rich, NONE, x -> x.row(0, k, 0));
        }
        for (int n : beside(0, 9)) {
            refused("6: BAD: n " + n, RefusalTest::rich, BAD, x -> x.row(1, 3, n));
            refused("6: BAD ahead of STATE: n " + n, RefusalTest::rich, BAD, x -> x.row(0, 0, n));
            refused("7: BAD: WEIGHT " + n, RefusalTest::rich, BAD, x -> x.set(0, 0, n));
            refused("7: BAD: DRIFT " + n, RefusalTest::rich, BAD, x -> x.set(0, 1, n));
        }
        for (int i : new int[] {0, 2, 3}) {
            refused("6: STATE: another KIND, thing " + i, RefusalTest::rich, STATE, x -> x.row(i, 0, 0));
            refused("6: STATE: another KIND, the last values, " + i, RefusalTest::rich, STATE, x -> x.row(i, 3, 9));
        }
        for (int kind = 0; kind < 6; kind++) {
            FlotsamQuorum x = fresh();
            x.thing(kind, 0, 0);
            Check.due("6: STATE: KIND " + kind, x.row(0, 0, 0), STATE);
        }
        for (int what : beside(0, 1)) {
            refused("7: NONE: what " + what, RefusalTest::rich, NONE, x -> x.set(0, what, 0));
            refused("7: NONE ahead of BAD: what " + what, RefusalTest::rich, NONE, x -> x.set(0, what, 10));
        }
        taken("6: the last values", RefusalTest::rich, 0, x -> x.row(1, 3, 9));
        taken("6: the first values", RefusalTest::rich, 0, x -> x.row(1, 0, 0));
        taken("7: the last WEIGHT", RefusalTest::rich, 1, x -> x.set(3, 0, 9));
        taken("7: the first DRIFT", RefusalTest::rich, 2, x -> x.set(0, 1, 0));
        refused("6: NONE: no THINGS", RefusalTest::fresh, NONE, x -> x.row(0, 0, 0));
        refused("7: NONE: no THINGS", RefusalTest::fresh, NONE, x -> x.set(0, 0, 0));
        refused("8: NONE: no THINGS", RefusalTest::fresh, NONE, x -> x.lose(0, true));
    }

    // ---- 9 .. 13

    private static void winds() {
        for (int k : beside(0, 3)) {
            refused("9: NONE: k " + k, RefusalTest::rich, NONE, x -> x.wind(k, 0));
            refused("9: NONE ahead of BAD: k " + k, RefusalTest::rich, NONE, x -> x.wind(k, 10));
        }
        for (int n : beside(0, 9)) {
            refused("9: BAD: n " + n, RefusalTest::rich, BAD, x -> x.wind(0, n));
            refused("9: BAD: n of the last, " + n, RefusalTest::rich, BAD, x -> x.wind(3, n));
        }
        taken("9: the last values", RefusalTest::rich, 5, x -> x.wind(3, 9));
        taken("9: the first values", RefusalTest::rich, 5, x -> x.wind(0, 0));
        for (int motion : besideButLess(4)) {
            refused("10: NONE: " + motion, RefusalTest::rich, NONE, x -> x.move(motion));
            refused("10: NONE, all are on THE AGENDA: " + motion, RefusalTest::fullAgenda, NONE, x -> x.move(motion));
        }
        for (int motion : new int[] {2, 0}) {
            refused("10: STATE: it is on it: " + motion, RefusalTest::rich, STATE, x -> x.move(motion));
        }
        for (int motion = 0; motion < 5; motion++) {
            int m = motion;
            refused("10: STATE: each is on it: " + m, RefusalTest::fullAgenda, STATE, x -> x.move(m));
        }
        taken("10: the last MOTION", RefusalTest::rich, 3, x -> x.move(4));
        taken("10: the first MOTION", RefusalTest::fresh, 1, x -> x.move(0));
        taken("10: motion -1", RefusalTest::fullAgenda, 0, x -> x.move(-1));
        taken("10: motion -1, empty already", RefusalTest::fresh, 0, x -> x.move(-1));
        for (int motion : beside(0, 4)) {
            refused("11: NONE: " + motion, RefusalTest::rich, NONE, x -> x.carry(motion, true));
            refused("11: NONE: not " + motion, RefusalTest::rich, NONE, x -> x.carry(motion, false));
        }
        taken("11: the last MOTION", RefusalTest::rich, 1, x -> x.carry(4, false));
        taken("11: the first MOTION", RefusalTest::rich, 0, x -> x.carry(1, true));
    }

    private static void tides() {
        for (int what : new int[] {-1, 5, 6, 7, 8, 9, 14, 15, MIN, MAX}) {
            refused("12: NONE: what " + what, RefusalTest::rich, NONE, x -> x.told(what));
        }
        for (int n : beside(0, 60)) {
            refused("13: BAD: n " + n, RefusalTest::rich, BAD, x -> x.pass(n));
            refused("13: BAD ahead of STATE: n " + n, RefusalTest::late, BAD, x -> x.pass(n));
        }
        refused("13: STATE: it would be above 9999 by 1", RefusalTest::late, STATE, x -> x.pass(40));
        refused("13: STATE: it would be far above", RefusalTest::late, STATE, x -> x.pass(60));
        taken("13: 9999 itself", RefusalTest::late, 9999, x -> x.pass(39));
        taken("13: n 60", RefusalTest::rich, 63, x -> x.pass(60));
        taken("13: n 0", RefusalTest::late, 9960, x -> x.pass(0));
        FlotsamQuorum x = late();
        x.pass(39);
        Check.due("13: STATE behind the last TIDE", x.pass(1), STATE);
        Check.due("13: n 0 behind the last TIDE", x.pass(0), 9999);
    }

    // ---- 14 .. 18

    private static void asked() {
        for (int what : beside(0, 1)) {
            refused("14: NONE: what " + what, RefusalTest::rich, NONE, x -> x.on(0, what));
            refused("14: NONE ahead of BAD, n 61: what " + what, RefusalTest::rich, NONE, x -> x.on(61, what));
            refused("14: NONE ahead of BAD, n -1: what " + what, RefusalTest::rich, NONE, x -> x.on(-1, what));
        }
        for (int n : beside(0, 60)) {
            refused("14: BAD: n " + n, RefusalTest::rich, BAD, x -> x.on(n, 0));
            refused("14: BAD: IN, n " + n, RefusalTest::rich, BAD, x -> x.on(n, 1));
        }
        for (int motion : beside(0, 4)) {
            refused("15: NONE: " + motion, RefusalTest::rich, NONE, x -> x.when(motion));
            refused("17: NONE: " + motion, RefusalTest::rich, NONE, x -> x.blows(motion));
            refused("18: NONE: " + motion, RefusalTest::rich, NONE, x -> x.stop(motion));
        }
        for (int k : new int[] {-2, 5, -3, 6, MIN, MAX}) {
            refused("16: NONE: k " + k, RefusalTest::rich, NONE, x -> x.order(0, k));
            refused("16: NONE ahead of BAD, set 32: k " + k, RefusalTest::rich, NONE, x -> x.order(32, k));
            refused("16: NONE ahead of BAD, set -1: k " + k, RefusalTest::rich, NONE, x -> x.order(-1, k));
        }
        for (int set : beside(0, 31)) {
            refused("16: BAD: set " + set, RefusalTest::rich, BAD, x -> x.order(set, -1));
            refused("16: BAD: set " + set + ", k 4", RefusalTest::rich, BAD, x -> x.order(set, 4));
        }
    }

    // ---- 19 .. 24

    private static void seen() {
        for (int motion : besideButLess(4)) {
            refused("19: NONE: " + motion, RefusalTest::rich, NONE, x -> x.see(motion, 0, true));
            refused("19: NONE ahead of BAD: " + motion, RefusalTest::rich, NONE, x -> x.see(motion, 21, true));
            refused("19: NONE ahead of FULL: " + motion, RefusalTest::fullSeen, NONE, x -> x.see(motion, 0, true));
        }
        for (int n : beside(0, 20)) {
            refused("19: BAD: n " + n, RefusalTest::rich, BAD, x -> x.see(0, n, true));
            refused("19: BAD ahead of FULL: n " + n, RefusalTest::fullSeen, BAD, x -> x.see(4, n, false));
            taken("19: motion -1, whatever the others are: n " + n, RefusalTest::fullSeen, 0, x -> x.see(-1, n, true));
        }
        refused("19: FULL: 5", RefusalTest::fullSeen, FULL, x -> x.see(0, 0, true));
        refused("19: FULL: 5, the last values", RefusalTest::fullSeen, FULL, x -> x.see(4, 20, false));
        taken("19: the last values", RefusalTest::rich, 3, x -> x.see(4, 20, true));
        taken("19: the first values", RefusalTest::rich, 3, x -> x.see(0, 0, false));
        taken("19: motion -1, none already", RefusalTest::fresh, 0, x -> x.see(-1, 0, false));
        for (int i : beside(0, 3)) {
            refused("20: NONE: thing " + i, RefusalTest::rich, NONE, x -> x.drifts(i));
            refused("21: NONE: thing " + i, RefusalTest::rich, NONE, x -> x.firm(i, 0));
            refused("21: NONE: thing, the least " + i, RefusalTest::rich, NONE, x -> x.firm(i, 1));
        }
        for (int what : beside(0, 1)) {
            refused("21: NONE: what " + what, RefusalTest::rich, NONE, x -> x.firm(0, what));
        }
    }

    private static void fractions() {
        for (int part = 0; part < 2; part++) {
            int p = part;
            for (int i : beside(0, 3)) {
                refused("22: NO: thing " + i, RefusalTest::rich, NO, x -> x.power(i, p));
            }
            for (int motion : beside(0, 4)) {
                refused("23: NO: motion " + motion, RefusalTest::rich, NO, x -> x.odds(motion, p));
            }
            refused("24: NO: there are none, part " + p, RefusalTest::fresh, NO, x -> x.mean(p));
        }
        for (int part : beside(0, 1)) {
            refused("22: NO: part " + part, RefusalTest::rich, NO, x -> x.power(0, part));
            refused("22: NO: part, and not IN: " + part, RefusalTest::rich, NO, x -> x.power(3, part));
            refused("23: NO: part " + part, RefusalTest::rich, NO, x -> x.odds(0, part));
            refused("24: NO: part " + part, RefusalTest::rich, NO, x -> x.mean(part));
        }
        taken("22: 0, if it is not IN", RefusalTest::rich, 0, x -> x.power(3, 0));
        taken("22: 0 by 1", RefusalTest::rich, 1, x -> x.power(3, 1));
    }

    // ---- 25 .. 28

    private static void plans() {
        for (int what : besideButLess(3)) {
            refused("25: NONE: what " + what, RefusalTest::rich, NONE, x -> x.plan(what, 0));
            refused("25: NONE ahead of FULL: what " + what, RefusalTest::fullPlan, NONE, x -> x.plan(what, 0));
        }
        for (int i : beside(0, 3)) {
            refused("25: NONE: THING by 1: " + i, RefusalTest::rich, NONE, x -> x.plan(1, i));
            refused("25: NONE: THING by 2: " + i, RefusalTest::rich, NONE, x -> x.plan(2, i));
            refused("25: NONE ahead of FULL: THING by 1: " + i, RefusalTest::fullPlan, NONE, x -> x.plan(1, i));
            refused("25: NONE ahead of FULL: THING by 2: " + i, RefusalTest::fullPlan, NONE, x -> x.plan(2, i));
        }
        for (int motion : beside(0, 4)) {
            refused("25: NONE: MOTION by 3: " + motion, RefusalTest::rich, NONE, x -> x.plan(3, motion));
            refused("25: NONE ahead of FULL: MOTION " + motion, RefusalTest::fullPlan, NONE, x -> x.plan(3, motion));
            taken("25: the other not looked at by 0: " + motion, RefusalTest::rich, 3, x -> x.plan(0, motion));
            taken("25: none then, whatever the other is: " + motion, RefusalTest::fullPlan, 0, x -> x.plan(-1, motion));
        }
        for (int what = 0; what < 4; what++) {
            int w = what;
            refused("25: FULL: 8, what " + w, RefusalTest::fullPlan, FULL, x -> x.plan(w, 0));
            taken("25: what " + w + " of 0", RefusalTest::rich, 3, x -> x.plan(w, 0));
        }
        taken("25: the last THING by 1", RefusalTest::rich, 3, x -> x.plan(1, 3));
        taken("25: the last THING by 2", RefusalTest::rich, 3, x -> x.plan(2, 3));
        taken("25: the last MOTION by 3", RefusalTest::rich, 3, x -> x.plan(3, 4));
        for (int what : beside(0, 1)) {
            refused("26: NONE: what " + what, RefusalTest::rich, NONE, x -> x.done(what));
        }
        for (int i : besideButLess(3)) {
            refused("27: NONE: thing " + i, RefusalTest::rich, NONE, x -> x.book(i, 0));
            refused("27: NONE ahead of BAD: thing " + i, RefusalTest::rich, NONE, x -> x.book(i, 10));
            refused("27: NONE ahead of FULL: thing " + i, RefusalTest::fullBook, NONE, x -> x.book(i, 0));
        }
        for (int drift : beside(0, 9)) {
            refused("27: BAD: drift " + drift, RefusalTest::rich, BAD, x -> x.book(0, drift));
            refused("27: BAD ahead of FULL: drift " + drift, RefusalTest::fullBook, BAD, x -> x.book(3, drift));
            taken("27: none then, whatever the other is: " + drift, RefusalTest::fullBook, 0, x -> x.book(-1, drift));
        }
        refused("27: FULL: 8", RefusalTest::fullBook, FULL, x -> x.book(0, 0));
        refused("27: FULL: 8, the last values", RefusalTest::fullBook, FULL, x -> x.book(3, 9));
        taken("27: the last values", RefusalTest::rich, 3, x -> x.book(3, 9));
        taken("27: the first values", RefusalTest::rich, 3, x -> x.book(0, 0));
        taken("27: thing -1, none already", RefusalTest::fresh, 0, x -> x.book(-1, 0));
    }

    // ---- 29 .. 34

    /** A refused act leaves no TRACE, so only what is not of THE TRACE stays. */
    private static void acts() {
        for (int i : beside(0, 3)) {
            noAct("29: no such THING " + i, x -> x.act(i, 0, 5));
            refused("31: NONE: thing " + i, RefusalTest::rich, NONE, x -> x.as(i, 0));
        }
        for (int act : beside(0, 2)) {
            noAct("29: no such act " + act, x -> x.act(0, act, 5));
            noAct("29: neither THING nor act " + act, x -> x.act(9, act, 5));
        }
        for (int i : new int[] {-1, 7, 8, 19, 20, 21, MIN, MAX}) {
            refused("30: NONE: i " + i, RefusalTest::rich, NONE, x -> x.trace(i));
        }
        for (int k : beside(0, 6)) {
            refused("31: NONE: k " + k, RefusalTest::rich, NONE, x -> x.as(0, k));
        }
        refused("31: of another KIND", RefusalTest::rich, -6, x -> x.as(1, 1));
        for (int what : beside(0, 7)) {
            refused("34: NONE: what " + what, RefusalTest::rich, NONE, x -> x.count(what));
        }
    }

    private static void noAct(String what, Call call) {
        FlotsamQuorum x = rich();
        Check.due(what, call.on(x), 0);
        Check.due("no TRACE then: " + what, x.trace(0), NONE);
        Check.due("no bodies ran: " + what, x.count(7), 0);
        Check.due("else changed nothing: " + what, viewWithoutTrace(x), viewWithoutTrace(rich()));
    }

    private static void images() {
        refused("33: STATE: there is none", RefusalTest::late, STATE, FlotsamQuorum::undo);
        refused("33: STATE: there is none, all empty", RefusalTest::fresh, STATE, FlotsamQuorum::undo);
    }

    // ---- what is but asked

    private static void whatIsAskedChangesNothing() {
        List<Call> calls = new ArrayList<>();
        for (int what = 0; what < 15; what++) {
            int w = what;
            calls.add(x -> x.of(2, w));
            calls.add(x -> x.told(w));
            calls.add(x -> x.count(w));
            calls.add(x -> x.trace(w));
            calls.add(x -> x.as(1, w));
        }
        for (int m = 0; m < 5; m++) {
            int motion = m;
            calls.add(x -> x.when(motion));
            calls.add(x -> x.order(motion * 7, motion - 1));
            calls.add(x -> x.blows(motion));
            calls.add(x -> x.stop(motion));
            calls.add(x -> x.odds(motion, 0));
            calls.add(x -> x.odds(motion, 1));
        }
        for (int i = 0; i < 4; i++) {
            int thing = i;
            calls.add(x -> x.drifts(thing));
            calls.add(x -> x.firm(thing, 0));
            calls.add(x -> x.firm(thing, 1));
            calls.add(x -> x.power(thing, 0));
            calls.add(x -> x.power(thing, 1));
        }
        for (int p = 0; p < 2; p++) {
            int part = p;
            calls.add(x -> x.on(0, part));
            calls.add(x -> x.on(60, part));
            calls.add(x -> x.mean(part));
            calls.add(x -> x.done(part));
        }
        calls.add(FlotsamQuorum::looked);
        String due = view(rich());
        for (int i = 0; i < calls.size(); i++) {
            FlotsamQuorum x = rich();
            long first = calls.get(i).on(x);
            Check.due("asked twice, call " + i, calls.get(i).on(x), first);
            Check.due("what is asked changes nothing, call " + i, view(x), due);
        }
    }
}
