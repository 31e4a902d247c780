/**
 * The edges of all but THE TAPE and the refusals: the first and the last value of each number, what stands just on
 * and just beside a bound, empty and full rows, what wraps. Answers worked out by hand.
 */
public final class EdgeTest {
    private static final int MIN = Integer.MIN_VALUE, MAX = Integer.MAX_VALUE;
    private static FlotsamQuorum x;

    public static void main(String[] args) {
        atFirst();
        things();
        rowsOfTold();
        weightsAndDrifts();
        lost();
        in();
        winds();
        agenda();
        carried();
        tests();
        likes();
        halves();
        likesByTide();
        quorum();
        votes();
        oneByOne();
        pass();
        beyond9999();
        on();
        when();
        still();
        order();
        blows();
        stop();
        see();
        driftsAndFirm();
        power();
        odds();
        mean();
        plan();
        planOfOneRow();
        book();
        acts();
        wraps();
        trace();
        as();
        image();
        undone();
        whatRowsHeld();
        counts();
        theLastCall();
        Check.end("EdgeTest");
    }

    private static void due(String sentence, long got, long want) {
        Check.due(sentence, got, want);
    }

    private static void fresh() {
        x = new FlotsamQuorum();
    }

    private static int bar(String text) {
        return Check.bar(x, text);
    }

    private static void passTo(int tide) {
        for (int at = x.told(0); at < tide; at += 60) {
            x.pass(Math.min(60, tide - at));
        }
    }

    // ---- 1

    private static void atFirst() {
        fresh();
        due("1: no THINGS", x.count(0), 0);
        due("1: no THING 0", x.lose(0, true), -1);
        due("1: no BAR", x.count(1), 0);
        due("1: QUORUM 2 without", x.told(1), 2);
        due("1: THE AGENDA is empty at first", x.count(2), 0);
        due("1: nothing SEEN", x.count(3), 0);
        due("1: no PLAN", x.count(4), 0);
        due("1: no BOOK", x.count(5), 0);
        due("1: THE TAPE is empty", x.count(6), 0);
        due("1: no TRACE", x.count(7), 0);
        due("1: no body of it", x.trace(0), -1);
        due("1: no IMAGE", x.undo(), -3);
        due("1: TIDE 0 at first", x.told(0), 0);
        due("1: MOTIONS not CARRIED at first", x.told(2), 0);
        due("1: none IN", x.told(3), 0);
        for (int k = 0; k < 4; k++) {
            due("1: WINDS 5 at first, k " + k, x.wind(k, 0), 5);
        }
        for (int m = 0; m < 5; m++) {
            due("1: MOTION not CARRIED at first, " + m, x.carry(m, true), 0);
        }
        for (int kind = 0; kind < 6; kind++) {
            x.thing(kind, 7, 8);
            due("4: WEIGHT 1 at first, KIND " + kind, x.of(kind, 2), 1);
            due("4: not LOST at first, KIND " + kind, x.lose(kind, false), 0);
        }
        fresh();
        x.thing(6, 0, 0);
        for (int k = 0; k < 4; k++) {
            due("4: ROW 0 at first, k " + k, x.row(0, k, 0), 0);
        }
    }

    // ---- 4 .. 11

    private static void things() {
        for (int kind = 0; kind <= 6; kind++) {
            fresh();
            due("4: kind " + kind, x.thing(kind, 0, 0), 0);
            due("5: KIND " + kind, x.of(0, 0), kind);
        }
        for (int n = 0; n <= 9; n++) {
            fresh();
            due("4: v and drift " + n, x.thing(0, n, 9 - n), 0);
            due("5: v " + n, x.of(0, 1), n);
            due("5: DRIFT " + (9 - n), x.of(0, 3), 9 - n);
        }
        fresh();
        for (int i = 0; i < 6; i++) {
            due("4: numbered from 0 on, 6 at most: " + i, x.thing(i, i, i), i);
            due("34: THINGS", x.count(0), i + 1);
        }
        due("4: FULL at the seventh", x.thing(0, 0, 0), -4);
        due("34: 6 THINGS", x.count(0), 6);
        due("5: the last of all what, of a HARMONIUM", x.of(5, 14), 5);
        for (int what : new int[] {-1, 6, 7, 8, 9, 15}) {
            due("5: no what " + what, x.of(5, what), -999999);
        }
        due("5: no THING 6", x.of(6, 0), -999999);
    }

    private static void rowsOfTold() {
        fresh();
        x.thing(6, 0, 0);
        x.thing(6, 0, 0);
        for (int k = 0; k < 4; k++) {
            for (int n = 0; n <= 9; n++) {
                due("6: k " + k + " was", x.row(1, k, n), Math.max(0, n - 1));
                due("6: LIKES of MOTION " + k, x.of(1, 10 + k), n - 4);
                due("6: not of another", x.of(0, 10 + k), -4);
            }
            x.row(1, k, k + 1);
        }
        due("6: MOTION 4 modulo 4 is 0", x.of(1, 14), 1 - 4);
        for (int k = 0; k < 4; k++) {
            due("6: each k of its own", x.of(1, 10 + k), k + 1 - 4);
        }
        fresh();
        for (int i = 0; i < 6; i++) {
            x.thing(6, 0, 0);
            for (int k = 0; k < 4; k++) {
                x.row(i, k, i + k + 1);
            }
            for (int j = 0; j <= i; j++) {
                for (int k = 0; k < 4; k++) {
                    due("6: ROW of " + j + " as told, of " + (i + 1), x.of(j, 10 + k), j + k + 1 - 4);
                }
            }
        }
    }

    private static void weightsAndDrifts() {
        fresh();
        x.thing(0, 0, 7);
        x.thing(0, 0, 0);
        due("7: WEIGHT was", x.set(0, 0, 0), 1);
        due("7: DRIFT was", x.set(0, 1, 0), 7);
        for (int n = 0; n <= 9; n++) {
            due("7: WEIGHT " + n, x.set(0, 0, n) * 10 + x.of(0, 2), Math.max(0, n - 1) * 10 + n);
            due("7: DRIFT " + n, x.set(0, 1, n) * 10 + x.of(0, 3), Math.max(0, n - 1) * 10 + n);
        }
        due("7: not of another", x.of(1, 2) * 10 + x.of(1, 3), 10);
    }

    private static void lost() {
        fresh();
        for (int i = 0; i < 6; i++) {
            x.thing(0, 0, 0);
        }
        for (int i = 0; i < 6; i++) {
            due("8: whether it was: " + i, x.lose(i, true), 0);
            due("8: LOST is not IN: " + i, x.told(3), 62 & 62 << i);
            due("8: it was: " + i, x.lose(i, true), 1);
        }
        for (int i = 5; i >= 0; i--) {
            due("8: it was still: " + i, x.lose(i, false), 1);
            due("8: IN again: " + i, x.told(3), 63 & 63 << i);
        }
    }

    private static void in() {
        for (int wind = 0; wind <= 9; wind++) {
            for (int drift = 0; drift <= 9; drift++) {
                fresh();
                x.thing(0, 0, drift);
                x.wind(0, wind);
                due("5: DRIFT " + drift + " by WIND " + wind, x.of(0, 5), drift <= wind ? 1 : 0);
                x.carry(0, true);
                due("5: and 3 by MOTION 0, DRIFT " + drift, x.of(0, 5), drift <= wind + 3 ? 1 : 0);
                x.carry(0, false);
                for (int m = 1; m < 5; m++) {
                    x.carry(m, true);
                }
                due("5: but 0 no MOTION, DRIFT " + drift, x.told(3), drift <= wind ? 1 : 0);
            }
        }
    }

    private static void winds() {
        fresh();
        for (int i = 0; i < 4; i++) {
            x.thing(0, 0, 2 * i + 1);
            due("9: the k-th was", x.wind(i, 2 * i + 1), 5);
            due("12: the k-th of WINDS", x.told(10 + i), 2 * i + 1);
        }
        for (int tide = 0; tide < 9; tide++) {
            due("9: at TIDE modulo 4, TIDE " + tide, x.told(3), (2 << tide % 4) - 1);
            x.pass(1);
        }
        for (int n = 0; n <= 9; n++) {
            x.wind(3, n);
            due("9: WIND " + n, x.wind(3, n), n);
        }
    }

    private static void agenda() {
        for (int m = 0; m < 5; m++) {
            fresh();
            due("10: MOTION " + m, x.move(m), 1);
            due("10: none twice: " + m, x.move(m), -3);
            due("10: it is empty then", x.move(-1), 0);
            due("10: on it again: " + m, x.move(m), 1);
        }
        fresh();
        for (int m = 4; m >= 0; m--) {
            due("10: how many there are", x.move(m), 5 - m);
        }
        due("10: full", x.count(2), 5);
        due("10: each is on it", x.move(0), -3);
        due("10: none such", x.move(5), -1);
        due("10: empty", x.move(-1) + x.count(2), 0);
    }

    private static void carried() {
        fresh();
        for (int m = 0; m < 5; m++) {
            due("11: whether it was: " + m, x.carry(m, true), 0);
            due("12: bits", x.told(2), (2 << m) - 1);
            due("11: it was: " + m, x.carry(m, true), 1);
        }
        for (int m = 0; m < 5; m++) {
            due("11: not any more: " + m, x.carry(m, false), 1);
            due("12: bits again", x.told(2), 31 & 62 << m);
            due("11: it was not: " + m, x.carry(m, false), 0);
        }
    }

    // ---- E and LIKES

    /** That the fact is n, by all three signs with one less, the same, and one more. */
    private static void factIs(char fact, int n, int thing, int motion) {
        factIs(fact, n, thing, motion, 0, 0);
    }

    private static void factIs(char fact, int n, int thing, int motion, int howManyCarried, int tide) {
        for (int beside = Math.max(0, n - 1); beside <= n + 1; beside++) {
            for (char sign : "<=>".toCharArray()) {
                fresh();
                for (int i = 0; i < 6; i++) {
                    x.thing(i == 0 ? 0 : 6, i == 0 ? 0 : 9, 0);
                }
                x.pass(tide);
                for (int m = 0; m < howManyCarried; m++) {
                    x.carry(m, true);
                }
                boolean holds = sign == '<' ? n < beside : sign == '>' ? n > beside : n == beside;
                String e = "" + fact + sign + beside;
                due("3: " + e, bar("favour 10 " + e), 0);
                // LIKES of THING 0 are SUM; those of the TOLD ones the half, less 4.
                int likes = thing == 0 ? x.of(thing, 10 + motion) : 2 * (x.of(thing, 10 + motion) + 4);
                due("5: " + e + ", it is " + n, likes, holds ? 10 : 0);
            }
        }
    }

    private static void tests() {
        for (int i : new int[] {0, 1, 5}) {
            factIs('p', i, i, 2);
        }
        factIs('k', 0, 0, 1);
        factIs('k', 6, 5, 1);
        factIs('v', 0, 0, 3);
        factIs('v', 9, 1, 3);
        for (int m = 0; m < 5; m++) {
            factIs('m', m, 0, m);
        }
        for (int howMany = 0; howMany <= 5; howMany++) {
            factIs('c', howMany, 0, 4, howMany, 0);
        }
        for (int tide : new int[] {0, 1, 9, 10, 11, 59, 60}) {
            factIs('t', tide % 10, 0, 0, 0, tide);
        }
    }

    private static void likes() {
        fresh();
        for (int kind : new int[] {0, 1, 2, 4, 5, 6}) {
            x.thing(kind, 9, 0);
        }
        x.row(5, 0, 9);
        // Without a BAR SUM is 0.
        int[][] bare = {{0, 0, 0, 0, 0}, {9, 0, 9, 0, 9}, {0, 0, 0, 0, 0}, {9, 0, 9, 0, 9}, {9, 9, 9, 9, 9},
            {5, -4, -4, -4, 5}};
        for (int i = 0; i < 6; i++) {
            for (int m = 0; m < 5; m++) {
                due("5: LIKES by SUM 0 of " + i + " for " + m, x.of(i, 10 + m), bare[i][m]);
            }
        }
        for (int carried = 0; carried < 5; carried++) {
            due("5: THRONE, CARRIED " + carried, x.of(3, 10), 9 - 2 * carried);
            due("5: CHAIR, CARRIED " + carried, x.of(1, 10), 9);
            x.carry(carried, true);
        }
        due("5: THRONE, all CARRIED, even", x.of(3, 12), -1);
        due("5: THRONE, all CARRIED, odd", x.of(3, 11), -10);
        String most = "resent 99 p<9;resent 99 p<9;resent 99 p<9;resent 99 p<9;resent 99 p<9;resent 99 p<9;resent 99 p<9";
        due("5: seven of 99", bar(most), 0);
        int[] least = {-693, -684, -693, -694, -684, -341};
        for (int i = 0; i < 6; i++) {
            due("5: the least LIKES of " + i, x.of(i, 10), least[i]);
        }
        due("5: seven of 99, favour", bar(most.replace("resent", "favour")), 1);
        int[] greatest = {693, 702, 693, 692, 702, 351};
        for (int i = 0; i < 6; i++) {
            due("5: the greatest LIKES of " + i, x.of(i, 10), greatest[i]);
        }
        due("5: all favour, less all resent", bar("resent 5 k=0;favour 9 k=0;resent 7 k=0;favour 2 k=0"), 2);
        due("5: together", x.of(0, 10), -1);
    }

    private static void halves() {
        for (int n = 0; n <= 9; n++) {
            fresh();
            x.thing(3, 5, 0);
            x.thing(6, 5, 0);
            bar("favour " + n + " p<9");
            due("5: half of " + n, x.of(0, 11), n / 2);
            due("5: TOLD of " + n, x.of(1, 11), n / 2 - 4);
            bar("resent " + n + " p<9");
            due("5: half of -" + n + ", cut toward 0", x.of(0, 11), -(n / 2));
            due("5: TOLD of -" + n, x.of(1, 11), -(n / 2) - 4);
        }
    }

    private static void likesByTide() {
        fresh();
        for (int kind = 0; kind < 6; kind++) {
            x.thing(kind, 4, 9);
        }
        bar("favour 3 p<9");
        for (int tide : new int[] {0, 1, 2, 3, 60, 61, 9998, 9999}) {
            passTo(tide);
            boolean isOdd = tide % 2 == 1;
            due("5: CASK at TIDE " + tide, x.of(2, 11), isOdd ? -3 : 3);
            due("5: HARMONIUM at TIDE " + tide, x.of(5, 11), isOdd ? 1 : 7);
            due("5: THING at TIDE " + tide, x.of(0, 11), 3);
            due("5: CHAIR at TIDE " + tide, x.of(1, 12), 7);
            due("5: BOOT at TIDE " + tide, x.of(3, 11), 1);
            due("5: THRONE at TIDE " + tide, x.of(4, 12), 7);
        }
    }

    // ---- a TIDE

    /** All six are for MOTION 1, those of them who are IN. */
    private static int carriedBy(int quorum, int howMany) {
        fresh();
        for (int i = 0; i < 6; i++) {
            x.thing(0, 0, i < howMany ? 5 : 6);
        }
        bar("favour 1 p<9;quorum " + quorum);
        x.move(1);
        x.pass(1);
        return x.told(2);
    }

    private static void quorum() {
        for (int howMany = 1; howMany <= 6; howMany++) {
            due("13: as many as QUORUM " + howMany, carriedBy(howMany, howMany), 2);
            due("13: more than QUORUM " + (howMany - 1), carriedBy(howMany - 1, howMany), 2);
            due("13: one fewer than QUORUM " + (howMany + 1), carriedBy(howMany + 1, howMany), 0);
        }
        due("13: QUORUM 7 is never met", carriedBy(7, 6), 0);
        due("13: QUORUM 99 is never met", carriedBy(99, 6), 0);
        due("13: QUORUM 0, none IN: not CARRIED", carriedBy(0, 0), 0);
        x.carry(1, true);
        x.carry(2, true);
        x.pass(1);
        due("13: QUORUM 0, none IN: no more, what is on THE AGENDA", x.told(2), 4);
        due("13: QUORUM 1, none IN", carriedBy(1, 0), 0);
        x.carry(1, true);
        x.pass(1);
        due("13: QUORUM 1, none IN: it stays", x.told(2), 2);
        fresh();
        x.thing(1, 1, 0);
        x.move(0);
        x.pass(1);
        due("13: QUORUM 2 without a BAR, 1 IN", x.told(2), 0);
        x.thing(0, 0, 0);
        x.pass(1);
        due("13: QUORUM 2 without a BAR, 2 IN", x.told(2), 1);
        fresh();
        x.thing(1, 1, 0);
        x.thing(1, 1, 0);
        x.carry(3, true);
        x.pass(1);
        due("13: THE AGENDA empty: nothing changes", x.told(2), 8);
        due("13: TIDE is 1 more", x.told(0), 1);
    }

    /** THING 0 is for it, 1 against it, 2 likes it by 0. */
    private static int carriedByWeights(int yes, int no, int neither, boolean was) {
        fresh();
        x.thing(0, 0, 0);
        x.thing(0, 0, 0);
        x.thing(0, 0, 0);
        x.set(0, 0, yes);
        x.set(1, 0, no);
        x.set(2, 0, neither);
        x.carry(2, was);
        bar("favour 1 p=0;resent 1 p=1");
        x.move(2);
        x.pass(1);
        return x.told(2);
    }

    private static void votes() {
        for (int no = 0; no <= 8; no++) {
            due("13: as many against: " + no, carriedByWeights(no, no, 9, false), 0);
            due("13: as many against, no more: " + no, carriedByWeights(no, no, 9, true), 0);
            due("13: one more for: " + no, carriedByWeights(no + 1, no, 9, false), 4);
            due("13: one more against: " + no, carriedByWeights(no, no + 1, 9, true), 0);
        }
        due("13: all WEIGHTS 0", carriedByWeights(0, 0, 0, true), 0);
        due("13: 9 against none", carriedByWeights(9, 0, 0, false), 4);
        // LIKES of 0 are neither, those of 1 and -1 are: a BOOT's half of 1 is 0, of 2 is 1.
        fresh();
        x.thing(3, 0, 0);
        x.thing(3, 0, 0);
        bar("favour 1 m=1;favour 2 m=2;resent 1 m=3;resent 2 m=4");
        for (int m = 1; m < 5; m++) {
            x.move(m);
        }
        x.pass(1);
        due("13: LIKES of 0, 1, 0, -1", x.told(2), 4);
        x.thing(0, 0, 0);
        x.set(2, 0, 0);
        x.pass(1);
        due("13: a THING for 1, its WEIGHT 0", x.told(2), 4);
        x.set(2, 0, 1);
        x.pass(1);
        due("13: a THING for 1, its WEIGHT 1", x.told(2), 6);
        // Those not IN have no WEIGHT in it.
        fresh();
        x.thing(0, 0, 0);
        x.thing(0, 0, 5);
        x.thing(0, 0, 6);
        x.thing(0, 0, 0);
        x.set(2, 0, 9);
        x.set(3, 0, 9);
        x.lose(3, true);
        bar("favour 1 p<2;resent 1 p>1");
        x.move(4);
        x.pass(1);
        due("13: against, but not IN", x.told(2), 16);
    }

    private static void oneByOne() {
        // Each by how all is then: m is CARRIED if as many are as the E tells.
        fresh();
        x.thing(0, 0, 0);
        bar("quorum 1;favour 1 m=0&c=0|m=1&c=1|m=2&c=2|m=3&c=3|m=4&c=4");
        for (int m = 0; m < 5; m++) {
            x.move(m);
        }
        x.pass(1);
        due("13: all, one by one", x.told(2), 31);
        x.move(-1);
        x.pass(1);
        due("13: an empty AGENDA: all stay", x.told(2), 31);
        for (int m = 4; m >= 0; m--) {
            x.carry(m, false);
            x.move(m);
        }
        x.pass(1);
        due("13: in the order of THE AGENDA", x.told(2), 1);
        // Who is IN is by how all is ahead of the TIDE: MOTION 0 is no more CARRIED first, yet the far one votes.
        fresh();
        x.thing(0, 0, 8);
        x.carry(0, true);
        bar("quorum 1;favour 1 m=1");
        x.move(0);
        x.move(1);
        x.pass(1);
        due("13: IN by MOTION 0 as it was", x.told(2), 2);
        due("13: not IN behind it", x.told(3), 0);
        // TIDE is 1 more behind the MOTIONS, not ahead of them.
        fresh();
        x.thing(0, 0, 0);
        bar("quorum 1;favour 1 t=0&m=1|t=1&m=2");
        x.move(1);
        x.move(2);
        x.pass(1);
        due("13: by the TIDE that goes", x.told(2), 2);
        x.pass(1);
        due("13: by the next one", x.told(2), 4);
    }

    // ---- 13 .. 15, STILL

    private static void pass() {
        for (int n = 0; n <= 60; n++) {
            fresh();
            due("13: n TIDES go: " + n, x.pass(n), n);
            due("12: TIDE " + n, x.told(0), n);
        }
        fresh();
        passTo(9939);
        due("13: 60 up to 9999", x.pass(60), 9999);
        due("13: 1 above", x.pass(1), -3);
        due("13: 60 above", x.pass(60), -3);
        due("13: 61 is BAD first", x.pass(61), -2);
        due("13: -1 is BAD", x.pass(-1), -2);
        due("13: 0 still", x.pass(0), 9999);
        fresh();
        passTo(9940);
        due("13: 60 up to 10000", x.pass(60), -3);
        due("13: TIDE stays", x.told(0), 9940);
        due("13: 59 up to 9999", x.pass(59), 9999);
    }

    private static void beyond9999() {
        fresh();
        x.thing(0, 0, 9);
        x.wind(3, 9);
        x.wind(0, 9);
        bar("quorum 1;favour 1 m=1&t=9|m=2&t=0|m=3&c=2");
        x.move(1);
        x.move(2);
        x.move(3);
        passTo(9999);
        x.carry(1, false);
        due("14: behind TIDE 9999", x.on(1, 0), 2);
        due("14: behind TIDE 10000", x.on(2, 0), 4);
        due("14: IN at TIDE 10000", x.on(1, 1), 1);
        due("14: IN at TIDE 10001", x.on(2, 1), 0);
        due("14: 60 beyond", x.on(60, 0), 0);
        due("15: WHEN beyond 9999", x.when(2), 2);
        due("12: STILL beyond 9999", x.told(4), -5);
        due("16: ORDER beyond 9999", x.order(2, -1), 5);
        due("17: BLOWS at 9999", x.blows(1), 512);
        x.see(2, 2, true);
        due("20: DRIFTS beyond 9999", x.drifts(0), 1023);
        x.plan(0, 0);
        x.plan(0, 0);
        due("26: DONE beyond 9999", x.done(0), 4);
        due("13: TIDE stays", x.told(0), 9999);
    }

    private static void on() {
        fresh();
        x.thing(0, 0, 9);
        bar("quorum 1;favour 1 m=1");
        x.move(1);
        x.wind(3, 9);
        due("14: n 0, CARRIED", x.on(0, 0), 0);
        due("14: n 0, IN", x.on(0, 1), 0);
        due("14: n 3, IN as TIDE 3 is", x.on(3, 1), 1);
        due("14: n 3, not CARRIED yet", x.on(3, 0), 0);
        due("14: n 4, CARRIED", x.on(4, 0), 2);
        due("14: n 4, not IN", x.on(4, 1), 0);
        due("14: n 59, IN", x.on(59, 1), 1);
        due("14: n 60, not IN", x.on(60, 1), 0);
        due("14: n 60, CARRIED", x.on(60, 0), 2);
        due("14: n 61", x.on(61, 0), -2);
        x.carry(4, true);
        due("14: n 0 is now", x.on(0, 0), 16);
    }

    /** By TIDES 9 modulo 20 one after the other of 1, 2, 3 is CARRIED, and stays. */
    private static void byTwenties() {
        fresh();
        x.thing(0, 0, 9);
        x.wind(1, 9);
        due("3: by twenties", bar("quorum 1;favour 1 m=1&(c>0|t=9)|m=2&(c>1|c=1&t=9)|m=3&(c>2|c=2&t=9)"), 0);
        x.move(3);
        x.move(2);
        x.move(1);
    }

    private static void when() {
        byTwenties();
        due("15: by TIDE 9", x.when(1), 10);
        due("15: by TIDE 29", x.when(2), 30);
        due("15: by TIDE 49", x.when(3), 50);
        x.wind(1, 0);
        x.wind(3, 9);
        due("15: by TIDE 19", x.when(1), 20);
        due("15: 60", x.when(3), 60);
        x.pass(20);
        x.carry(1, false);
        due("15: 60 again", x.when(3), 60);
        x.pass(19);
        x.carry(1, false);
        due("15: 41", x.when(3), 41);
        byTwenties();
        x.wind(1, 0);
        x.wind(3, 9);
        x.carry(3, true);
        due("15: 0, CARRIED now", x.when(3), 0);
        fresh();
        x.thing(0, 0, 9);
        x.wind(0, 9);
        bar("quorum 1;favour 1 m=1&(c>0|t=0)|m=2&(c>1|c=1&t=0)|m=3&(c>2|c=2&t=0)|m=4&(c>3|c=3&t=0)");
        for (int m = 4; m > 0; m--) {
            x.move(m);
        }
        due("15: by TIDE 0", x.when(1), 1);
        due("15: by TIDE 40", x.when(3), 41);
        due("15: -5: 61 is not by then", x.when(4), -5);
        x.pass(1);
        due("15: 60 from TIDE 1 on", x.when(4), 60);
        due("15: -5: never", x.when(0), -5);
    }

    private static void still() {
        fresh();
        due("12: STILL 0, all empty", x.told(4), 0);
        byTwenties();
        due("12: -5: CARRIED behind 10, 30, 50", x.told(4), -5);
        x.pass(10);
        due("12: STILL 40: CARRIED behind 20, 40", x.told(4), 40);
        x.move(-1);
        x.move(2);
        due("15: CARRIED behind 20", x.when(2), 20);
        due("12: so not STILL behind 0, of 20 more the last is otherwise", x.told(4), 20);
        x.pass(19);
        due("12: STILL 1", x.told(4), 1);
        x.pass(1);
        due("12: STILL 0", x.told(4), 0);
        byTwenties();
        x.pass(9);
        due("15: CARRIED behind 41", x.when(3), 41);
        due("12: -5: 41 is none of 0 .. 40", x.told(4), -5);
        // The same MOTIONS, not as many: a CASK is for 1 at even TIDES, for 2 at odd ones.
        fresh();
        x.thing(2, 0, 0);
        bar("quorum 1;favour 1 m=1;resent 1 m=2");
        x.move(1);
        x.move(2);
        x.pass(1);
        due("12: as many, but others", x.on(1, 0) * 100 + x.on(2, 0), 402);
        due("12: -5: never the same", x.told(4), -5);
        // Who is IN is not asked.
        x.move(-1);
        x.wind(2, 9);
        x.set(0, 1, 9);
        due("12: IN by turns, STILL 0", x.told(4), 0);
    }

    // ---- 16 .. 18

    private static int rowOf(int set) {
        int row = 0;
        for (int k = 0; k < 5; k++) {
            row = row * 10 + x.order(set, k);
        }
        return row;
    }

    private static void order() {
        fresh();
        due("16: of several the first, none of which is as told in any", rowOf(31), 1234);
        for (int set = 0; set <= 31; set++) {
            due("16: of how many, none IN, set " + set, x.order(set, -1), 5 - Integer.bitCount(set));
        }
        due("16: of several the first", rowOf(31), 1234);
        due("16: of several the first, set 0", rowOf(0), 1234);
        fresh();
        x.thing(0, 0, 0);
        bar("quorum 1;favour 1 c=0&m=4|c=1&m=3|c=2&m=2|c=3&m=1|c=4&m=0");
        due("16: the last row of all is the only one", x.order(31, -1), 5);
        due("16: it is 4, 3, 2, 1, 0", rowOf(31), 43210);
        bar("quorum 1;favour 1 c=0&m=0|c=1&m=1|c=2&m=2|c=3&m=3|c=4&m=4");
        due("16: the first row of all", rowOf(31), 1234);
        due("16: all but none", x.order(0, -1), 4);
        bar("quorum 1;favour 1 c=0&m=0|c=1&m=1|c=2&m=2|c=3&m=4|c=4&m=3");
        due("16: the second row", rowOf(31), 1243);
        bar("quorum 1;favour 1 c=0&m=4|c=1&m=3|c=2&m=2|c=3&m=0|c=4&m=1");
        due("16: the last but one", rowOf(31), 43201);
        // It is asked of this TIDE alone, and of all five though THE AGENDA has but one.
        x.move(3);
        due("16: THE AGENDA is not looked at", rowOf(31), 43201);
        due("16: and stays", x.on(1, 0), 0);
        x.carry(0, true);
        due("16: what is CARRIED may be so no more", x.order(0, -1), 5);
    }

    private static void blows() {
        for (int drift = 0; drift <= 9; drift++) {
            fresh();
            x.thing(0, 0, drift);
            x.move(1);
            x.move(0);
            x.wind(0, 0);
            bar("quorum 1;favour 1 m=1");
            due("17: WINDS from " + drift + " on", x.blows(1), 1023 & 1023 << drift);
            due("17: none for 0", x.blows(0), 0);
            x.carry(0, true);
            due("17: and 3, from " + drift + " on", x.blows(1), 1023 & 1023 << Math.max(0, drift - 3));
            due("17: MOTION 0 stays by too little", x.blows(0), 1023 & ~(1023 << Math.max(0, drift - 3)));
            x.carry(4, true);
            due("17: CARRIED, by any", x.blows(4), 1023);
        }
        fresh();
        x.thing(0, 0, 0);
        x.thing(0, 0, 1);
        x.thing(0, 0, 9);
        x.move(2);
        bar("quorum 1;favour 1 p=0;resent 1 p=1");
        due("17: WIND 0 alone", x.blows(2), 1);
        bar("quorum 1;favour 1 p=2");
        due("17: WIND 9 alone", x.blows(2), 512);
        x.pass(6);
        x.carry(2, false);
        due("17: of TIDE 6", x.blows(2), 512);
        x.wind(2, 9);
        due("17: as ever by WIND 9", x.blows(2), 512);
        x.wind(2, 0);
        due("17: as ever by WIND 0", x.blows(2), 512);
    }

    private static void stop() {
        fresh();
        due("18: no THINGS, not CARRIED: the empty set", x.stop(0), 0);
        x.carry(0, true);
        due("18: no THINGS, CARRIED", x.stop(0), -5);
        fresh();
        for (int i = 0; i < 6; i++) {
            x.thing(0, 0, 0);
        }
        x.move(1);
        bar("quorum 0;favour 1 p<9");
        due("18: all six", x.stop(1), 63);
        for (int i = 0; i < 6; i++) {
            due("18: all but those LOST, less " + i, x.stop(1), 63 & 63 << i);
            x.lose(i, true);
        }
        due("18: all are LOST", x.stop(1), 0);
        for (int i = 0; i < 6; i++) {
            x.lose(i, false);
        }
        bar("quorum 6;favour 1 p<9");
        due("18: one is enough, the least", x.stop(1), 1);
        x.carry(1, true);
        due("18: none stops what stays", x.stop(1), -5);
        x.carry(1, false);
        for (int i = 0; i < 6; i++) {
            fresh();
            for (int j = 0; j < 6; j++) {
                x.thing(0, 0, 0);
                x.set(j, 0, j == i ? 9 : 1);
            }
            x.move(2);
            bar("quorum 0;favour 1 p=" + i + ";resent 1 p<" + i + "|p>" + i);
            due("18: the one for it: " + i, x.stop(2), 1 << i);
        }
        // The fewest ahead of the least: without 0 and 1 (bits 3) it is 2 against 2, and so without 3 alone (bits 8).
        for (int m = 0; m < 5; m++) {
            fresh();
            for (int i = 0; i < 4; i++) {
                x.thing(0, 0, 0);
            }
            x.set(2, 0, 2);
            x.set(3, 0, 2);
            x.move(m);
            bar("favour 1 p=0|p=1|p=3;resent 1 p=2");
            due("18: one alone ahead of two that are less as bits, MOTION " + m, x.stop(m), 8);
            x.lose(3, true);
            due("18: 3 is LOST, it is not CARRIED: MOTION " + m, x.stop(m), 0);
            x.lose(3, false);
            x.set(3, 0, 3);
            x.set(2, 0, 1);
            due("18: two, the least as bits of 9 and 10: MOTION " + m, x.stop(m), 9);
        }
        fresh();
        for (int i = 0; i < 4; i++) {
            x.thing(0, 0, 0);
        }
        x.set(3, 0, 3);
        x.set(2, 0, 2);
        bar("quorum 0;favour 1 p=0|p=1|p=3;resent 1 p=2");
        x.move(4);
        due("18: the heavy one alone", x.stop(4), 8);
        x.set(3, 0, 1);
        due("18: of those alone the least", x.stop(4), 1);
        x.set(2, 0, 1);
        due("18: of twos the least", x.stop(4), 3);
        x.lose(0, true);
        due("18: one more, LOST being one", x.stop(4), 2);
    }

    // ---- 19 .. 21

    private static void see() {
        for (int n = 0; n <= 20; n++) {
            fresh();
            due("19: n " + n, x.see(n % 5, n, true), 1);
            due("34: of SEEN", x.count(3), 1);
        }
        fresh();
        for (int i = 1; i <= 5; i++) {
            due("19: 5 at most", x.see(i - 1, 20, i % 2 == 0), i);
        }
        due("19: FULL at the sixth", x.see(0, 0, false), -4);
        due("19: none then", x.see(-1, MIN, true), 0);
        due("34: none of SEEN", x.count(3), 0);
        due("19: none still", x.see(-1, MAX, false), 0);
        due("19: the first again", x.see(4, 0, true), 1);
    }

    private static void driftsAndFirm() {
        fresh();
        x.thing(1, 5, 5);
        due("20: nothing SEEN: all", x.drifts(0), 1023);
        due("21: nothing SEEN: all", x.firm(0, 0), 10);
        due("21: nothing SEEN: the least", x.firm(0, 1), 0);
        for (int m = 0; m < 5; m++) {
            x.carry(m, true);
            due("20: nothing SEEN, CARRIED up to " + m, x.drifts(0), 1023);
            due("21: nothing SEEN, CARRIED up to " + m, x.firm(0, 0), 10);
        }
        for (int m = 0; m < 5; m++) {
            x.carry(m, false);
        }
        x.see(0, 0, true);
        due("20: otherwise now: none", x.drifts(0), 0);
        due("21: otherwise now: none", x.firm(0, 0), 0);
        due("21: otherwise now: -5", x.firm(0, 1), -5);
        for (int n = 0; n <= 9; n++) {
            fresh();
            x.thing(1, 5, 5);
            for (int k = 0; k < 4; k++) {
                x.wind(k, n);
            }
            x.move(2);
            x.see(2, 1, true);
            bar("quorum 1");
            due("20: up to the WIND " + n, x.drifts(0), (2 << n) - 1);
            x.see(-1, 0, true);
            x.see(2, 1, false);
            due("20: not so above it " + n, x.drifts(0), 1023 & 1022 << n);
            x.see(-1, 0, true);
            x.see(2, 20, true);
            x.wind(0, 9);
            bar("quorum 1;resent " + n + " m=2");
            due("21: v above " + n, x.firm(0, 0), 9 - n);
            due("21: the least above " + n, x.firm(0, 1), n < 9 ? n + 1 : -5);
            due("21: v stays", x.of(0, 1), 5);
        }
        // Behind 20 TIDES, by the last of them alone: IN by WIND 3 at TIDE 19.
        fresh();
        x.thing(0, 0, 9);
        for (int k = 0; k < 3; k++) {
            x.wind(k, 0);
        }
        x.wind(3, 4);
        x.move(1);
        bar("quorum 1;favour 1 t=9&m=1");
        x.see(1, 20, true);
        due("20: behind 20", x.drifts(0), 31);
        x.see(1, 10, false);
        due("20: not behind 10, as by WIND 0", x.drifts(0), 30);
        due("20: DRIFT stays", x.of(0, 3), 9);
        // All five of SEEN count, the last one, too.
        fresh();
        x.thing(0, 0, 0);
        for (int m = 0; m < 4; m++) {
            x.see(m, 0, false);
        }
        due("20: four are so", x.drifts(0), 1023);
        x.see(4, 0, true);
        due("20: the fifth is not", x.drifts(0), 0);
        due("21: the fifth is not", x.firm(0, 1), -5);
        x.carry(4, true);
        due("20: it is now", x.drifts(0), 1023);
        due("21: it is now", x.firm(0, 0), 10);
    }

    // ---- 22 .. 24

    private static void power(String what, int thing, long above, long below) {
        due("22: " + what + ", above", x.power(thing, 0), above);
        due("22: " + what + ", below", x.power(thing, 1), below);
    }

    private static void power() {
        fresh();
        x.thing(0, 0, 5);
        x.thing(0, 0, 6);
        power("one IN alone", 0, 1, 1);
        power("not IN", 1, 0, 1);
        x.set(0, 0, 0);
        power("one IN alone, WEIGHT 0", 0, 0, 1);
        x.set(0, 0, 9);
        x.lose(0, true);
        power("LOST", 0, 0, 1);
        x.lose(0, false);
        x.set(1, 1, 5);
        x.set(1, 0, 9);
        // 9 are the half of 18, and no more: the first has not turned it, the second has.
        power("two alike", 0, 1, 2);
        x.set(1, 0, 8);
        power("the heavier of two", 0, 1, 1);
        power("the lighter of two", 1, 0, 1);
        fresh();
        for (int i = 0; i < 6; i++) {
            x.thing(0, 0, 0);
        }
        for (int i = 0; i < 6; i++) {
            power("six alike, " + i, i, 1, 6);
        }
        x.set(0, 0, 5);
        // 5 of 10 are the half: it turns all but those rows in which it is the first.
        power("the half", 0, 5, 6);
        power("one of the others", 5, 1, 30);
        x.set(0, 0, 6);
        power("more than the half", 0, 1, 1);
        power("one of the others then", 5, 0, 1);
        x.set(0, 0, 4);
        // 4 of 9: it turns with 1 .. 4 ahead.
        power("4 of 9", 0, 2, 3);
        power("one of those of 1", 1, 1, 15);
        for (int i = 0; i < 6; i++) {
            x.set(i, 0, 0);
        }
        power("all WEIGHTS 0", 3, 0, 1);
    }

    private static void odds() {
        for (int drift = 0; drift <= 9; drift++) {
            fresh();
            x.thing(0, 0, drift);
            x.move(1);
            bar("quorum 1;favour 1 m=1");
            int by = 10 - drift;
            int common = by % 10 == 0 ? 10 : by == 5 ? 5 : by % 2 == 0 ? 2 : 1;
            due("23: above, DRIFT " + drift, x.odds(1, 0), by / common);
            due("23: below, DRIFT " + drift, x.odds(1, 1), 10 / common);
            due("23: never, above", x.odds(2, 0), 0);
            due("23: never, below", x.odds(2, 1), 1);
            x.carry(4, true);
            due("23: for sure, above", x.odds(4, 0), 1);
            due("23: for sure, below", x.odds(4, 1), 1);
        }
    }

    private static void mean() {
        fresh();
        due("24: NO: no THINGS", x.mean(0), Long.MIN_VALUE);
        due("24: NO: no THINGS, below", x.mean(1), Long.MIN_VALUE);
        x.thing(0, 0, 6);
        due("24: NO: none IN", x.mean(0), Long.MIN_VALUE);
        x.set(0, 1, 5);
        due("24: one IN", x.mean(0) * 10 + x.mean(1), 11);
        x.set(0, 0, 0);
        due("24: WEIGHT 0", x.mean(0) * 10 + x.mean(1), 1);
        x.lose(0, true);
        due("24: NO: LOST", x.mean(1), Long.MIN_VALUE);
        fresh();
        for (int i = 0; i < 6; i++) {
            x.thing(0, 0, 0);
            x.set(i, 0, 9);
        }
        due("24: six of 9", x.mean(0) * 10 + x.mean(1), 91);
        x.set(0, 0, 8);
        due("24: 53 by 6", x.mean(0) * 10 + x.mean(1), 536);
        x.set(1, 0, 8);
        due("24: 52 by 6", x.mean(0) * 10 + x.mean(1), 263);
        x.set(2, 0, 8);
        due("24: 51 by 6", x.mean(0) * 10 + x.mean(1), 172);
    }

    // ---- 25 .. 28

    private static void plan() {
        fresh();
        for (int i = 0; i < 6; i++) {
            x.thing(0, 0, 0);
        }
        due("26: no rows, CARRIED", x.done(0), 0);
        due("26: no rows, IN", x.done(1), 63);
        for (int i = 0; i < 6; i++) {
            due("25: LOST " + i, x.plan(1, i), i + 1);
            due("26: IN", x.done(1), 63 & 126 << i);
        }
        due("25: the seventh", x.plan(2, 0), 7);
        due("26: IN again", x.done(1), 1);
        due("25: 8 at most", x.plan(2, 5), 8);
        due("26: IN by the eighth", x.done(1), 33);
        due("25: FULL", x.plan(0, 0), -4);
        due("34: 8 rows", x.count(4), 8);
        due("25: none then", x.plan(-1, MIN), 0);
        due("26: no rows again", x.done(1), 63);
        for (int other : new int[] {MIN, -1, 6, MAX}) {
            due("25: the other not looked at: " + other, x.plan(0, other), x.count(4));
        }
        x.plan(-1, MAX);
        for (int m = 0; m < 5; m++) {
            x.carry(m, true);
        }
        for (int m = 0; m < 5; m++) {
            due("25: MOTION " + m, x.plan(3, m), m + 1);
            due("26: not CARRIED any more", x.done(0), 31 & 62 << m);
        }
        due("26: nothing changed", x.told(2) * 100 + x.told(3), 3163);
        x.plan(-1, 0);
        // Rows go one after the other: a MOTION is off, and then a TIDE carries it.
        bar("quorum 1;favour 1 t=7&m=1");
        x.move(1);
        x.carry(1, false);
        for (int i = 0; i < 7; i++) {
            x.plan(0, i);
        }
        due("26: behind 7 TIDES", x.done(0), 29);
        x.plan(0, 7);
        due("26: behind 8", x.done(0), 31);
        due("26: TIDE stays", x.told(0), 0);
    }

    /** Each row does what it tells and nothing else: all MOTIONS are CARRIED, each second THING is LOST. */
    private static void planOfOneRow() {
        fresh();
        for (int i = 0; i < 6; i++) {
            x.thing(i, 0, 0);
            x.lose(i, i % 2 == 1);
        }
        for (int m = 0; m < 5; m++) {
            x.carry(m, true);
        }
        for (int n = 0; n < 6; n++) {
            x.plan(1, n);
            due("26: 1 is LOST, CARRIED as they were: " + n, x.done(0), 31);
            due("26: 1 is LOST, the others as they were: " + n, x.done(1), 21 & ~(1 << n));
            x.plan(-1, 0);
            x.plan(2, n);
            due("26: 2 is not, CARRIED as they were: " + n, x.done(0), 31);
            due("26: 2 is not, the others as they were: " + n, x.done(1), 21 | 1 << n);
            x.plan(-1, 0);
            if (n < 5) {
                x.plan(3, n);
                due("26: 3 is not CARRIED, the others as they were: " + n, x.done(0), 31 & ~(1 << n));
                due("26: 3 is not CARRIED, IN as they were: " + n, x.done(1), 21);
                x.plan(-1, 0);
            }
        }
    }

    private static void book() {
        fresh();
        due("28: no BOOK", x.looked(), -5);
        for (int i = 0; i < 6; i++) {
            x.thing(0, 0, i);
        }
        for (int drift = 0; drift <= 9; drift++) {
            x.book(-1, MIN);
            due("27: drift " + drift, x.book(5, drift), 1);
            due("28: as told by 5 alone", x.looked(), drift == 5 ? -5 : 0);
        }
        x.book(-1, MAX);
        for (int i = 0; i < 8; i++) {
            due("27: 8 at most", x.book(i % 6, i % 6), i + 1);
            due("28: all so", x.looked(), -5);
        }
        due("27: FULL", x.book(0, 0), -4);
        due("34: 8 rows", x.count(5), 8);
        for (int i = 5; i >= 0; i--) {
            x.set(i, 1, 9);
            due("28: the first otherwise", x.looked(), i);
        }
        for (int i = 2; i < 6; i++) {
            x.set(i, 1, i);
        }
        x.set(0, 1, 0);
        due("28: the second", x.looked(), 1);
        x.book(-1, 0);
        for (int i = 0; i < 7; i++) {
            x.book(0, 0);
        }
        x.book(1, 1);
        due("28: the eighth", x.looked(), 7);
        x.set(1, 1, 1);
        due("28: none", x.looked(), -5);
    }

    // ---- 29 .. 31

    private static void act(int thing, int act, int with, int want) {
        due("29: act " + act + " of " + thing + " with " + with, x.act(thing, act, with), want);
    }

    private static void acts() {
        // The THINGS stand so that their numbers are not their KINDS; i is 0 .. 5, v 9 or 0.
        for (int i = 0; i < 6; i++) {
            for (int v = 0; v <= 9; v += 9) {
                for (int kind = 0; kind < 7; kind++) {
                    fresh();
                    for (int j = 0; j < i; j++) {
                        x.thing(0, 3, 3);
                    }
                    x.thing(kind, v, 0);
                    int chair = kind == 1 || kind == 4 ? 3 : 1;
                    boolean isCask = kind == 2 || kind == 5;
                    boolean isBoot = kind == 3 || kind == 6;
                    for (int with : new int[] {-7, 0, 1, 50}) {
                        int bobs = kind == 5 ? with + i ^ i : with * chair + i;
                        act(i, 0, with, bobs);
                        int sits = (isCask ? v - bobs : bobs - v) + (kind == 6 ? v : 0);
                        act(i, 1, with, sits);
                        int votes = isBoot ? sits * 2 ^ 7 : kind == 4 ? (sits - 3) * 2 + 6 + i : sits * 2;
                        act(i, 2, with, votes);
                    }
                }
            }
        }
    }

    private static void wraps() {
        fresh();
        for (int kind = 0; kind < 6; kind++) {
            x.thing(kind, 9, 0);
        }
        due("29: x + i up to MAX", x.act(2, 0, MAX - 2), MAX);
        due("29: x + i wraps", x.act(2, 0, MAX - 1), MIN);
        due("29: x * 3 wraps", x.act(1, 0, MAX), MAX - 2 + 1);
        due("29: x * 3 of MIN is MIN", x.act(1, 0, MIN), MIN + 1);
        due("29: less v down to MIN", x.act(0, 1, MIN + 9), MIN);
        due("29: less v wraps", x.act(0, 1, MIN + 8), MAX);
        due("29: * 2 wraps", x.act(0, 2, 1073741824 + 9), MIN);
        due("29: * 2 of MIN is 0", x.act(0, 2, MIN + 9), 0);
        due("29: 0 less MIN is MIN", x.act(2, 1, MIN + 9 - 2), MIN);
        due("29: 0 less MAX", x.act(2, 1, MIN + 8 - 2), MIN + 1);
        due("29: ^ 7 at the end", x.act(3, 2, 1073741824 + 9 - 3), MIN + 7);
        due("29: x - 1 of MIN, * 3, wraps", x.act(4, 2, MIN), (MAX - 2 + 4 - 9) * 2 + 10);
        due("29: ^ i wraps as x + i", x.act(5, 0, MAX - 4), MIN ^ 5);
        fresh();
        x.thing(6, 9, 0);
        due("29: TOLD wraps there and back", x.act(0, 1, MIN), MIN);
        due("29: TOLD at MAX", x.act(0, 1, MAX), MAX);
    }

    private static void trace() {
        fresh();
        for (int kind = 0; kind < 6; kind++) {
            x.thing(kind, 0, 0);
        }
        due("30: no act yet", x.trace(0), -1);
        x.act(4, 2, 1);
        int[] bodies = {41, 3, 2, 11, 1, 11, 1};
        due("34: bodies that ran", x.count(7), 7);
        for (int i = 0; i < 7; i++) {
            due("30: body " + i, x.trace(i), bodies[i]);
        }
        for (int i : new int[] {-1, 7, 8, 19, 20, 21, MIN, MAX}) {
            due("30: no body " + i, x.trace(i), -1);
        }
        x.act(0, 0, 1);
        due("30: the latest act alone", x.trace(0) * 10 + x.trace(1), 9);
        due("34: of the latest act alone", x.count(7), 1);
        x.act(6, 0, 1);
        due("30: no TRACE by no THING", x.trace(0), -1);
        x.act(0, 0, 1);
        x.act(0, 3, 1);
        due("30: no TRACE by no act", x.trace(0), -1);
        due("34: none ran", x.count(7), 0);
    }

    private static void as() {
        String[] under = {"0", "01", "02", "03", "014", "025", "036"};
        for (int kind = 0; kind < 7; kind++) {
            for (int v = 0; v <= 9; v += 9) {
                fresh();
                x.thing(kind, v, 0);
                for (int k = 0; k < 7; k++) {
                    boolean is = under[kind].indexOf('0' + k) >= 0;
                    due("31: KIND " + kind + " taken for " + k, x.as(0, k), is ? v : -6);
                }
                due("31: NONE: KIND 7", x.as(0, 7), -1);
                due("31: NONE: KIND -1", x.as(0, -1), -1);
                due("31: NONE: THING 1", x.as(1, 0), -1);
                due("31: NONE: THING -1", x.as(-1, 0), -1);
            }
        }
    }

    // ---- 32 .. 34

    private static void image() {
        fresh();
        due("33: STATE: there is none", x.undo(), -3);
        due("32: 0 THINGS", x.image(), 0);
        due("33: there is one of nothing", x.undo(), 0);
        for (int i = 0; i < 6; i++) {
            x.thing(0, 0, 0);
        }
        due("32: 6 THINGS", x.image(), 6);
        due("33: 6 THINGS", x.undo(), 6);
        x.lose(5, true);
        due("33: undo", x.undo(), 6);
        due("33: as THE IMAGE", x.of(5, 4), 0);
        x.lose(4, true);
        due("33: undo by the same again", x.undo() * 10 + x.of(4, 4), 60);
        x.lose(3, true);
        x.image();
        x.lose(3, false);
        due("33: by the later one", x.undo() * 10 + x.of(3, 4), 61);
        // An IMAGE in an IMAGE is none: undo leads to the same one.
        due("33: by the same one", x.undo() * 10 + x.of(3, 4), 61);
    }

    private static void undone() {
        fresh();
        for (int i = 0; i < 4; i++) {
            bar("quorum " + i);
        }
        for (int i = 0; i < 5; i++) {
            x.thing(6, 1, 1);
            x.row(i, 3, i);
        }
        for (int i = 0; i < 4; i++) {
            x.move(i);
            x.see(i, 20, false);
        }
        for (int i = 0; i < 7; i++) {
            x.plan(0, 0);
            x.book(4, 1);
        }
        passTo(9999);
        for (int i = 1; i < 100; i++) {
            x.feed(i == 1 ? 'q' : 'u');
        }
        x.image();
        due("3: the fifth BAR ahead of undo", x.bar(), -12);
        due("3: number 4", bar("quorum 9"), 4);
        x.thing(0, 0, 0);
        x.row(4, 3, 9);
        x.move(4);
        x.see(4, 0, true);
        x.plan(3, 4);
        x.book(4, 2);
        x.carry(4, true);
        x.wind(3, 0);
        x.act(0, 2, 5);
        due("33: undo", x.undo(), 5);
        int[] counts = {5, 4, 4, 4, 7, 7, 99, 5};
        for (int what = 0; what < 8; what++) {
            due("33: count(" + what + ")", x.count(what), counts[what]);
        }
        due("33: THE TRACE is none of it", x.trace(3), 2);
        due("33: TIDE", x.told(0), 9999);
        due("33: QUORUM", x.told(1), 3);
        due("33: CARRIED", x.told(2), 0);
        due("33: WINDS", x.told(13), 5);
        due("33: ROW", x.row(4, 3, 0), 4);
        due("33: BOOK", x.looked(), -5);
        due("33: room as ahead: THINGS", x.thing(0, 0, 0), 5);
        due("33: FULL as ahead: THINGS", x.thing(0, 0, 0), -4);
        due("33: room as ahead: THE AGENDA", x.move(4), 5);
        due("33: room as ahead: SEEN", x.see(0, 0, true), 5);
        due("33: FULL as ahead: SEEN", x.see(0, 0, true), -4);
        due("33: room as ahead: PLAN", x.plan(0, 0), 8);
        due("33: FULL as ahead: PLAN", x.plan(0, 0), -4);
        due("33: room as ahead: BOOK", x.book(0, 0), 8);
        due("33: FULL as ahead: BOOK", x.book(0, 0), -4);
        due("33: room as ahead: THE TAPE", x.feed('u'), 100);
        due("33: FULL as ahead: THE TAPE", x.feed('u'), -4);
        due("33: THE TAPE as ahead", x.bar(), -12);
        due("33: room as ahead: BARS", bar("quorum 9"), 4);
        due("33: FULL as ahead: BARS", x.bar(), -4);
    }

    /** Rows that are as many as those of THE IMAGE, but others. */
    private static void whatRowsHeld() {
        fresh();
        x.thing(0, 0, 0);
        x.thing(0, 0, 5);
        x.set(1, 0, 3);
        bar("favour 7 m=1|m=2;quorum 1");
        x.move(1);
        x.carry(3, true);
        x.see(1, 1, true);
        x.plan(1, 1);
        x.book(1, 5);
        Check.feed(x, "quorum 5");
        x.image();
        due("3: another BAR", bar(";quorum 9;favour 2 m=0"), 1);
        Check.feed(x, "favour 3");
        x.see(-1, 0, true);
        x.see(2, 3, false);
        x.plan(-1, 0);
        x.plan(3, 3);
        x.book(-1, 0);
        x.book(0, 9);
        x.move(-1);
        x.move(2);
        due("20: another of SEEN", x.drifts(1), 1023);
        due("26: another PLAN", x.done(0) * 10 + x.done(1), 3);
        due("28: another BOOK", x.looked(), 0);
        due("33: undo", x.undo(), 2);
        due("33: THE AGENDA as it was", x.on(1, 0), 10);
        due("33: the E of the BAR as it was", x.of(0, 12), 7);
        due("33: all CLAUSES as they were", x.of(0, 10), 0);
        due("33: QUORUM as it was", x.told(1), 1);
        due("33: SEEN as it was", x.drifts(1), 1023);
        due("33: PLAN as it was", x.done(0) * 10 + x.done(1), 81);
        due("33: BOOK as it was", x.looked(), -5);
        due("33: THE TAPE as it was", x.bar(), 1);
        due("33: THE TAPE as it was, QUORUM", x.told(1), 5);
        x.undo();
        x.lose(0, true);
        x.lose(1, true);
        due("33: SEEN, the MOTION", x.drifts(1), 0);
        x.undo();
        x.carry(1, true);
        x.move(-1);
        due("33: SEEN, whether", x.drifts(1), 1023);
        x.undo();
        x.bar();
        x.carry(1, true);
        x.see(-1, 0, true);
        x.see(1, 0, true);
        x.undo();
        due("33: SEEN, behind how many", x.drifts(0), 1023);
        x.set(1, 1, 4);
        due("33: BOOK, the THING", x.looked(), 0);
        x.set(1, 1, 5);
        due("33: BOOK, the DRIFT", x.looked(), -5);
    }

    private static void counts() {
        fresh();
        for (int i = 0; i < 9; i++) {
            x.thing(0, 0, 0);
            bar(i < 5 ? "quorum " + i : "");
            x.move(i);
            x.see(0, 0, true);
            x.plan(0, 0);
            x.book(0, 0);
        }
        for (int i = 0; i < 101; i++) {
            x.feed(0);
        }
        int[] full = {6, 5, 5, 5, 8, 8, 100, 0};
        for (int what = 0; what < 8; what++) {
            due("34: full, what " + what, x.count(what), full[what]);
        }
        due("34: NONE: what 8", x.count(8), -1);
        due("34: NONE: what -1", x.count(-1), -1);
    }

    private static void theLastCall() {
        fresh();
        for (int i = 1; i < 512; i++) {
            x.pass(i % 30);
        }
        due("an object is used for 512 calls: the last one", x.pass(0), 7396);
    }
}
