/** Each promise with ordinary calls, the edges that the document names, and wrong inputs; answers worked out by hand. */
public final class PromiseTest {
    private static int passed = 0;
    private static int failed = 0;
    private static FlotsamQuorum x;

    public static void main(String[] args) {
        newObject();
        feed();
        bar();
        faults();
        tests();
        operators();
        thing();
        of();
        likes();
        row();
        set();
        lose();
        wind();
        move();
        carry();
        told();
        still();
        twenties();
        pass();
        tide();
        on();
        when();
        order();
        blows();
        stop();
        see();
        drifts();
        firm();
        power();
        odds();
        mean();
        plan();
        done();
        book();
        looked();
        act();
        trace();
        as();
        image();
        undo();
        count();
        System.out.println("PromiseTest: " + passed + " answers as due, " + failed + " not");
        if (failed > 0) {
            System.exit(1);
        }
    }

    private static void due(String call, long got, long want) {
        if (got == want) {
            passed++;
        } else {
            failed++;
            System.out.println(call + " answered " + got + ", due is " + want);
        }
    }

    private static void fresh() {
        x = new FlotsamQuorum();
    }

    private static int bar(String text) {
        for (int i = 0; i < text.length(); i++) {
            x.feed(text.charAt(i));
        }
        return x.bar();
    }

    // ---- 1, 2, 3

    private static void newObject() {
        fresh();
        for (int what = 0; what < 8; what++) {
            due("1: count(" + what + ")", x.count(what), 0);
        }
        due("1: told(0)", x.told(0), 0);
        due("1: told(1)", x.told(1), 2);
        due("1: told(2)", x.told(2), 0);
        due("1: told(3)", x.told(3), 0);
        for (int k = 0; k < 4; k++) {
            due("1: told(10 + " + k + ")", x.told(10 + k), 5);
        }
        due("1: NONE", FlotsamQuorum.NONE, -1);
        due("1: BAD", FlotsamQuorum.BAD, -2);
        due("1: STATE", FlotsamQuorum.STATE, -3);
        due("1: FULL", FlotsamQuorum.FULL, -4);
        due("1: NO", FlotsamQuorum.NO, Long.MIN_VALUE);
        FlotsamQuorum other = new FlotsamQuorum();
        other.thing(0, 0, 0);
        due("1: another object has its own THINGS", x.count(0), 0);
    }

    private static void feed() {
        fresh();
        due("2: feed(0)", x.feed(0), 1);
        due("2: feed(127)", x.feed(127), 2);
        due("2: feed(-1)", x.feed(-1), -2);
        due("2: feed(128)", x.feed(128), -2);
        for (int i = 3; i <= 100; i++) {
            due("2: feed, the sign " + i, x.feed('q'), i);
        }
        due("2: feed, the tape full", x.feed('q'), -4);
        due("2: feed(-1), the tape full", x.feed(-1), -2);
        due("2: count(6)", x.count(6), 100);
    }

    private static void bar() {
        fresh();
        due("3: first bar", bar("quorum 4"), 0);
        due("3: the tape is empty", x.count(6), 0);
        due("3: QUORUM", x.told(1), 4);
        due("3: a fault", bar("quorum 4 "), -18);
        due("3: the tape is empty by a fault", x.count(6), 0);
        due("3: the one that held holds", x.told(1), 4);
        due("3: second bar", bar("quorum 7;quorum 0;quorum 99"), 1);
        due("3: the last quorum", x.told(1), 99);
        due("3: no quorum clause", bar("favour 1 p=0"), 2);
        due("3: QUORUM without", x.told(1), 2);
        due("3: bar 3", bar("quorum 3"), 3);
        due("3: bar 4", bar("quorum 5"), 4);
        due("3: full", bar("quorum 6"), -4);
        due("3: the tape stays", x.count(6), 8);
        due("3: full ahead of a fault", bar("x"), -4);
        due("3: the tape stays again", x.count(6), 9);
        due("3: the fifth holds", x.told(1), 5);
        due("3: five bars", x.count(1), 5);
    }

    private static void fault(String text, int place) {
        fresh();
        due("3: fault of " + text, bar(text), -10 - place);
        due("3: no bar by " + text, x.count(1), 0);
    }

    private static void whole(String text) {
        fresh();
        due("3: bar of " + text, bar(text), 0);
    }

    private static void faults() {
        fault("", 0);
        fault(" ", 0);
        fault("q", 1);
        fault("qx", 1);
        fault("quorum", 6);
        fault("quorum ", 7);
        fault("quorum  1", 7);
        fault("quorum a", 7);
        fault("quorum :", 7);
        fault("quorum /", 7);
        fault("quorum 1:", 8);
        fault("quorum 1/", 8);
        fault("quorum 00", 8);
        fault("quorum 012", 8);
        fault("quorum 123", 9);
        fault("quorum 1 p=1", 8);
        fault("quorum 1;", 9);
        fault("quorum 1;;", 9);
        fault("quorum 1; quorum 1", 9);
        fault("favor 1 p=1", 4);
        fault("favour 1", 8);
        fault("favour 1;", 8);
        fault("favour 1 ", 9);
        fault("favour 1  p=1", 9);
        fault("favour 01 p=1", 8);
        fault("favour 100 p=1", 9);
        fault("favour 1 q=1", 9);
        fault("favour 1 p", 10);
        fault("favour 1 p!1", 10);
        fault("favour 1 p1", 10);
        fault("favour 1 =1", 9);
        fault("favour 1 p<=1", 11);
        fault("favour 1 p=", 11);
        fault("favour 1 p=-1", 11);
        fault("favour 1 p=100", 13);
        fault("favour 1 p=05", 12);
        fault("favour 1 p=1 ", 12);
        fault("favour 1 p=1)", 12);
        fault("favour 1 (p=1", 13);
        fault("favour 1 (p=1;", 13);
        fault("favour 1 ()", 10);
        fault("favour 1 p=1|", 13);
        fault("favour 1 p=1||p=1", 13);
        fault("favour 1 p=1&|p=1", 13);
        fault("favour 1 p=1!p=1", 12);
        fault("resent 1 !!!!!!p=1", 14);
        fault("resent 1 ((((((p=1", 14);
        fault("resent 1 !(!(!!p=1", 14);
        fault("resent 1 (((((p=1))))))", 22);
        fault("resent 1 (((((!p=1)))))", 14);
        fault("Quorum 1", 0);
        whole("resent 1 !!!!!p=1&!!!!!k=2|!(!(!v=3))");
        whole("resent 1 (((((p=1)))))&(((((p=1)))))");
        whole("favour 0 t>99");
        whole("favour 99 p<0;resent 10 c>1;quorum 10");
        String ten = "quorum 1;quorum 1;quorum 1;quorum 1;quorum 1;quorum 1;quorum 1;quorum 1;quorum 1;quorum 1";
        whole(ten);
        fault(ten + ";", ten.length());
        fault(ten + ";quorum 1", ten.length());
        fault(ten + "x", ten.length());
        String nine = ten.substring(9) + ";";
        whole(nine + "favour 4 p=0");
        x.thing(0, 0, 0);
        due("3: the tenth clause counts", x.of(0, 10), 4);
        String full = "favour 1 p=1|p=2|p=3|p=4|p=5|k=1|k=2|k=3|k=4|k=5|v=1|v=2|v=3|v=4|v=5|m=1|m=2|m=3|m=4|c=1|c=2|c=3|t";
        fault(full, full.length());
        whole(full.substring(0, 96) + "|t=9");
    }

    /** LIKES of a BOOT are the half of SUM: so one favour tells whether E holds. */
    private static void holds(String e, int motion, int want) {
        fresh();
        x.thing(0, 0, 0);
        x.thing(3, 7, 0);
        x.carry(2, true);
        x.carry(4, true);
        x.pass(13);
        due("3: bar of " + e, bar("favour 10 " + e), 0);
        due("3: " + e + " of MOTION " + motion, x.of(1, 10 + motion), want * 5);
    }

    private static void tests() {
        String[] facts = {"p", "k", "v", "m", "c", "t"};
        int[] are = {1, 3, 7, 4, 2, 3};
        for (int i = 0; i < facts.length; i++) {
            holds(facts[i] + "=" + are[i], 4, 1);
            holds(facts[i] + "=" + (are[i] + 1), 4, 0);
            holds(facts[i] + "<" + are[i], 4, 0);
            holds(facts[i] + "<" + (are[i] + 1), 4, 1);
            holds(facts[i] + ">" + are[i], 4, 0);
            holds(facts[i] + ">" + (are[i] - 1), 4, 1);
        }
        holds("t<10", 0, 1);
        holds("t=13", 0, 0);
        holds("v<70", 0, 1);
    }

    private static void operators() {
        holds("!p=1", 0, 0);
        holds("!!p=1", 0, 1);
        holds("p=0|p=1", 0, 1);
        holds("p=1|p=0", 0, 1);
        holds("p=0|p=2", 0, 0);
        holds("p=1&v=7", 0, 1);
        holds("p=1&v=6", 0, 0);
        holds("p=0&v=7", 0, 0);
        holds("p=1|p=0&p=0", 0, 1);
        holds("p=0&p=0|p=1", 0, 1);
        holds("(p=1|p=0)&p=0", 0, 0);
        holds("!p=1|p=1", 0, 1);
        holds("!(p=1|p=1)", 0, 0);
        holds("!p=0&p=0", 0, 0);
        holds("!(p=0&p=0)", 0, 1);
        holds("p=0|p=0|p=1&!p=0", 0, 1);
        holds("p=1&p=1&p=1&!p=1", 0, 0);
        holds("!(p=0|!(v=7&c=2))|t=9", 0, 1);
        holds("(p=0|p=1)&(v=7|v=8)", 0, 1);
        holds("(p=1|p=0)&(v=9|v=8)|p=1", 0, 1);
    }

    // ---- 4 .. 11

    private static void thing() {
        fresh();
        due("4: kind -1", x.thing(-1, 0, 0), -1);
        due("4: kind 7", x.thing(7, -1, -1), -1);
        due("4: v -1", x.thing(0, -1, 0), -2);
        due("4: v 10", x.thing(0, 10, 0), -2);
        due("4: drift -1", x.thing(0, 0, -1), -2);
        due("4: drift 10", x.thing(0, 0, 10), -2);
        due("4: refused ones don't count", x.count(0), 0);
        for (int i = 0; i < 6; i++) {
            due("4: thing " + i, x.thing(6 - i, i, 9 - i), i);
        }
        due("4: full", x.thing(0, 0, 0), -4);
        due("4: NONE ahead of FULL", x.thing(7, 0, 0), -1);
        due("4: BAD ahead of FULL", x.thing(0, 10, 0), -2);
        for (int i = 0; i < 6; i++) {
            due("4: KIND of " + i, x.of(i, 0), 6 - i);
            due("4: v of " + i, x.of(i, 1), i);
            due("4: WEIGHT of " + i, x.of(i, 2), 1);
            due("4: DRIFT of " + i, x.of(i, 3), 9 - i);
            due("4: LOST of " + i, x.of(i, 4), 0);
        }
    }

    private static void of() {
        fresh();
        due("5: no THING", x.of(0, 0), -999999);
        x.thing(2, 3, 5);
        x.thing(0, 8, 6);
        due("5: KIND", x.of(0, 0), 2);
        due("5: v", x.of(0, 1), 3);
        due("5: IN as far as the WIND", x.of(0, 5), 1);
        due("5: not IN", x.of(1, 5), 0);
        x.carry(0, true);
        x.wind(0, 3);
        due("5: IN by 3 and MOTION 0", x.of(1, 5), 1);
        x.wind(0, 2);
        due("5: not IN by 2 and MOTION 0", x.of(1, 5), 0);
        x.lose(0, true);
        due("5: LOST", x.of(0, 4), 1);
        due("5: LOST is not IN", x.of(0, 5), 0);
        due("5: no LIKES without a BAR", x.of(0, 10), 0);
        due("5: what -1", x.of(0, -1), -999999);
        due("5: what 6", x.of(0, 6), -999999);
        due("5: what 9", x.of(0, 9), -999999);
        due("5: what 15", x.of(0, 15), -999999);
        due("5: what least int", x.of(0, Integer.MIN_VALUE), -999999);
        due("5: thing -1", x.of(-1, 0), -999999);
        due("5: thing 2", x.of(2, 0), -999999);
    }

    private static void likes() {
        fresh();
        for (int kind = 0; kind < 7; kind++) {
            if (kind != 3) {
                x.thing(kind, 7, 0);
            }
        }
        x.row(5, 1, 9);
        bar("favour 9 m<2;resent 2 m=1;resent 15 m>1");
        // SUM: 9, 7, -15, -15, -15
        int[][] even = {{9, 7, -15, -15, -15}, {16, 7, -8, -15, -8}, {9, 7, -15, -15, -15},
            {16, 7, -8, -15, -8}, {16, 14, -8, -8, -8}, {0, 8, -11, -11, -11}};
        int[][] odd = {even[0], even[1], {-9, -7, 15, 15, 15}, even[3], {-2, 0, 22, 22, 22}, even[5]};
        for (int i = 0; i < 6; i++) {
            for (int m = 0; m < 5; m++) {
                due("5: LIKES of " + i + " for " + m, x.of(i, 10 + m), even[i][m]);
            }
        }
        x.carry(1, true);
        x.carry(3, true);
        due("5: THRONE less twice those CARRIED", x.of(3, 12), -12);
        due("5: CHAIR not", x.of(1, 12), -8);
        x.carry(1, false);
        x.carry(3, false);
        x.pass(1);
        for (int i = 0; i < 6; i++) {
            for (int m = 0; m < 5; m++) {
                due("5: LIKES of " + i + " for " + m + ", TIDE odd", x.of(i, 10 + m), odd[i][m]);
            }
        }
        x.pass(1);
        due("5: HARMONIUM at TIDE 2", x.of(4, 11), 14);
        x.pass(1);
        due("5: HARMONIUM at TIDE 3", x.of(4, 11), 0);
        fresh();
        x.thing(3, 9, 9);
        bar("resent 7 m=0;favour 7 m=1;favour 1 m=2");
        due("5: half of -7", x.of(0, 10), -3);
        due("5: half of 7", x.of(0, 11), 3);
        due("5: half of 1", x.of(0, 12), 0);
    }

    private static void row() {
        fresh();
        x.thing(3, 0, 0);
        x.thing(6, 0, 0);
        due("6: row", x.row(1, 0, 9), 0);
        due("6: row again", x.row(1, 0, 8), 9);
        due("6: row 3", x.row(1, 3, 2), 0);
        due("6: MOTION 0", x.of(1, 10), 4);
        due("6: MOTION 4 is 0 modulo 4", x.of(1, 14), 4);
        due("6: MOTION 3", x.of(1, 13), -2);
        due("6: MOTION 1", x.of(1, 11), -4);
        due("6: no thing", x.row(2, 0, 0), -1);
        due("6: k 4", x.row(1, 4, 0), -1);
        due("6: k -1", x.row(1, -1, 10), -1);
        due("6: n 10", x.row(1, 0, 10), -2);
        due("6: n -1", x.row(1, 0, -1), -2);
        due("6: BAD ahead of STATE", x.row(0, 0, 10), -2);
        due("6: another KIND", x.row(0, 0, 1), -3);
        due("6: NONE ahead of STATE", x.row(0, 4, 1), -1);
        due("6: the refused changed nothing", x.row(1, 0, 0), 8);
    }

    private static void set() {
        fresh();
        x.thing(0, 0, 4);
        due("7: WEIGHT", x.set(0, 0, 9), 1);
        due("7: WEIGHT again", x.set(0, 0, 0), 9);
        due("7: DRIFT", x.set(0, 1, 6), 4);
        due("7: DRIFT again", x.set(0, 1, 0), 6);
        due("7: of WEIGHT", x.of(0, 2), 0);
        due("7: of DRIFT", x.of(0, 3), 0);
        due("7: v stays", x.of(0, 1), 0);
        due("7: what 2", x.set(0, 2, 10), -1);
        due("7: what -1", x.set(0, -1, 0), -1);
        due("7: thing 1", x.set(1, 0, 0), -1);
        due("7: n 10", x.set(0, 0, 10), -2);
        due("7: n -1", x.set(0, 1, -1), -2);
    }

    private static void lose() {
        fresh();
        x.thing(0, 0, 0);
        x.thing(0, 0, 0);
        due("8: not LOST yet", x.lose(1, true), 0);
        due("8: it was", x.lose(1, true), 1);
        due("8: told(3)", x.told(3), 1);
        due("8: not any more", x.lose(1, false), 1);
        due("8: it was not", x.lose(1, false), 0);
        due("8: told(3) again", x.told(3), 3);
        due("8: thing 2", x.lose(2, true), -1);
        due("8: thing -1", x.lose(-1, true), -1);
    }

    private static void wind() {
        fresh();
        x.thing(0, 0, 6);
        due("9: wind", x.wind(1, 6), 5);
        due("9: wind again", x.wind(1, 9), 6);
        due("9: told(11)", x.told(11), 9);
        due("9: TIDE 0", x.told(3), 0);
        x.pass(1);
        due("9: TIDE 1", x.told(3), 1);
        x.pass(1);
        due("9: TIDE 2", x.told(3), 0);
        x.pass(3);
        due("9: TIDE 5", x.told(3), 1);
        due("9: k 4", x.wind(4, 0), -1);
        due("9: k -1", x.wind(-1, 99), -1);
        due("9: n 10", x.wind(0, 10), -2);
        due("9: n -1", x.wind(3, -1), -2);
        due("9: told(10)", x.told(10), 5);
    }

    private static void move() {
        fresh();
        due("10: move(3)", x.move(3), 1);
        due("10: move(0)", x.move(0), 2);
        due("10: on it", x.move(3), -3);
        due("10: move(5)", x.move(5), -1);
        due("10: move(-2)", x.move(-2), -1);
        x.move(1);
        x.move(2);
        due("10: move(4)", x.move(4), 5);
        due("10: all are on it", x.move(4), -3);
        due("10: count(2)", x.count(2), 5);
        due("10: move(-1)", x.move(-1), 0);
        due("10: count(2) then", x.count(2), 0);
        due("10: move(4) again", x.move(4), 1);
    }

    private static void carry() {
        fresh();
        due("11: carry(4)", x.carry(4, true), 0);
        due("11: it was", x.carry(4, true), 1);
        due("11: told(2)", x.told(2), 16);
        due("11: not", x.carry(4, false), 1);
        due("11: it was not", x.carry(4, false), 0);
        due("11: told(2) then", x.told(2), 0);
        due("11: motion 5", x.carry(5, true), -1);
        due("11: motion -1", x.carry(-1, true), -1);
    }

    // ---- 12 .. 18

    private static void told() {
        fresh();
        x.thing(0, 0, 5);
        x.thing(0, 0, 8);
        x.thing(0, 0, 9);
        x.carry(0, true);
        x.carry(3, true);
        due("12: told(0)", x.told(0), 0);
        due("12: told(1)", x.told(1), 2);
        due("12: told(2)", x.told(2), 9);
        due("12: told(3)", x.told(3), 3);
        due("12: told(4)", x.told(4), 0);
        due("12: told(13)", x.told(13), 5);
        due("12: told(5)", x.told(5), -1);
        due("12: told(9)", x.told(9), -1);
        due("12: told(14)", x.told(14), -1);
        due("12: told(-1)", x.told(-1), -1);
    }

    /** MOTION 0 is as E tells, from the TIDE behind on. */
    private static int stillBy(String text) {
        fresh();
        x.thing(0, 0, 0);
        bar("quorum 1;" + text);
        x.move(0);
        return x.told(4);
    }

    private static void still() {
        due("12: STILL at once", stillBy("favour 1 m=1"), 0);
        due("12: STILL behind 1", stillBy("favour 1 m=0"), 1);
        due("12: never STILL", stillBy("favour 1 c=0"), -5);
        due("12: not STILL by tens", stillBy("favour 1 t=9"), -5);
        due("12: told(4) changes nothing", x.told(2), 0);
        due("12: TIDE stays", x.told(0), 0);
        // One is IN at TIDE 3 modulo 4 alone: MOTION 1 is CARRIED by TIDE 3, and stays.
        fresh();
        x.thing(1, 1, 9);
        x.wind(3, 9);
        bar("quorum 1;favour 1 m=1");
        x.move(1);
        due("12: STILL behind 4", x.told(4), 4);
        // THING 1 comes in by MOTION 0, which the first TIDE carries, and then is against MOTION 1.
        fresh();
        x.thing(0, 0, 5);
        x.thing(0, 0, 8);
        bar("favour 5 p=0;resent 5 p=1&m=1;quorum 1");
        x.move(0);
        x.move(1);
        due("12: STILL by those who come in", x.told(4), 2);
    }

    /** One is IN at TIDES 3 modulo 4; those with 9 at the end, each 20th, carry one more of 1, 2, 3, 4. */
    private static void countingByTwenties() {
        fresh();
        x.thing(0, 0, 9);
        x.wind(3, 9);
        int number = bar("quorum 1;favour 1 m=1&(c>0|t=9)|m=2&(c>1|c=1&t=9)|m=3&(c>2|c=2&t=9)|m=4&(c=4|c=3&t=9)");
        due("12: bar of twenties", number, 0);
    }

    private static void twenties() {
        countingByTwenties();
        x.move(2);
        x.move(1);
        due("12: STILL behind 40", x.told(4), 40);
        due("12: on(39, 0)", x.on(39, 0), 2);
        due("12: on(40, 0)", x.on(40, 0), 6);
        countingByTwenties();
        x.move(3);
        x.move(2);
        x.move(1);
        due("15: behind 60", x.when(3), 60);
        due("12: not STILL by 40", x.told(4), -5);
        x.pass(19);
        due("15: behind 41", x.when(3), 41);
        due("12: STILL behind 41 alone", x.told(4), -5);
        countingByTwenties();
        for (int m = 4; m > 0; m--) {
            x.move(m);
        }
        x.pass(19);
        due("15: behind 61 alone", x.when(4), -5);
        due("15: behind 41, too", x.when(3), 41);
    }

    private static void pass() {
        fresh();
        due("13: pass(0)", x.pass(0), 0);
        due("13: pass(60)", x.pass(60), 60);
        due("13: pass(61)", x.pass(61), -2);
        due("13: pass(-1)", x.pass(-1), -2);
        for (int i = 2; i <= 166; i++) {
            x.pass(60);
        }
        due("13: TIDE 9960", x.told(0), 9960);
        due("13: above 9999", x.pass(40), -3);
        due("13: BAD ahead of STATE", x.pass(61), -2);
        due("13: the refused changed nothing", x.told(0), 9960);
        due("13: pass(39)", x.pass(39), 9999);
        due("13: pass(1) at the end", x.pass(1), -3);
        due("13: pass(0) at the end", x.pass(0), 9999);
        x.thing(0, 0, 9);
        x.wind(0, 9);
        bar("quorum 1;favour 1 t=0");
        x.move(4);
        due("13: asked beyond 9999", x.on(1, 1), 1);
        due("13: on(2) beyond 9999", x.on(2, 0), 16);
        due("13: when beyond 9999", x.when(4), 2);
        due("13: TIDE stays", x.told(0), 9999);
    }

    private static void tide() {
        fresh();
        x.thing(0, 0, 5);
        x.thing(0, 0, 5);
        x.thing(0, 0, 6);
        bar("quorum 3;favour 1 p<9");
        x.move(1);
        x.pass(1);
        due("13: no house, nothing carried", x.told(2), 0);
        x.carry(2, true);
        x.move(2);
        bar("quorum 2;favour 1 p<2&m=1;resent 1 m=2;resent 1 p=2");
        x.pass(1);
        due("13: a house: 1 is, 2 is not any more", x.told(2), 2);
        x.set(0, 1, 6);
        x.pass(1);
        due("13: no house, all stays", x.told(2), 2);
        // WEIGHTS: as many for as against is not CARRIED; those who LIKE it by 0 don't count.
        fresh();
        x.thing(0, 0, 0);
        x.thing(0, 0, 0);
        x.thing(0, 0, 0);
        x.set(0, 0, 5);
        x.set(1, 0, 5);
        x.set(2, 0, 9);
        bar("favour 1 p=0;resent 3 p=1");
        x.move(3);
        x.pass(1);
        due("13: as many against", x.told(2), 0);
        x.set(1, 0, 4);
        x.pass(1);
        due("13: more for", x.told(2), 8);
        x.set(0, 0, 0);
        x.set(1, 0, 0);
        x.pass(1);
        due("13: WEIGHTS of 0", x.told(2), 0);
        // One after the other: MOTION 1 needs two CARRIED ahead of it.
        fresh();
        x.thing(0, 0, 0);
        bar("quorum 1;favour 1 m=4|m=2;favour 1 m=1&c=2");
        x.move(4);
        x.move(1);
        x.move(2);
        x.pass(1);
        due("13: 1 is ahead of 2", x.told(2), 20);
        x.pass(1);
        due("13: the next TIDE both are ahead", x.told(2), 22);
        // Who is IN is by how all is ahead of the TIDE, though 0 is CARRIED in it.
        fresh();
        x.thing(0, 0, 5);
        x.thing(0, 0, 8);
        bar("quorum 1;favour 1 p=0;resent 1 p=1&m=1");
        x.move(0);
        x.move(1);
        x.pass(1);
        due("13: only 0 voted", x.told(2), 3);
        x.pass(1);
        due("13: 1 votes, too", x.told(2), 1);
        bar("quorum 0");
        x.lose(0, true);
        x.lose(1, true);
        x.pass(1);
        due("13: QUORUM 0, none IN", x.told(2), 0);
    }

    private static void on() {
        fresh();
        x.thing(0, 0, 5);
        x.thing(0, 0, 8);
        bar("quorum 1;favour 1 t=2&m=0;favour 1 m=1");
        x.move(0);
        x.move(1);
        due("14: on(0, 0)", x.on(0, 0), 0);
        due("14: on(0, 1)", x.on(0, 1), 1);
        due("14: on(1, 0)", x.on(1, 0), 2);
        due("14: on(3, 0)", x.on(3, 0), 3);
        due("14: on(3, 1)", x.on(3, 1), 3);
        due("14: on(4, 0)", x.on(4, 0), 2);
        due("14: on(4, 1)", x.on(4, 1), 1);
        due("14: on(60, 0)", x.on(60, 0), 2);
        due("14: on(53, 0)", x.on(53, 0), 3);
        due("14: what 2", x.on(0, 2), -1);
        due("14: NONE ahead of BAD", x.on(61, -1), -1);
        due("14: n 61", x.on(61, 0), -2);
        due("14: n -1", x.on(-1, 1), -2);
        due("14: nothing changed", x.told(2) + x.told(0), 0);
    }

    private static void when() {
        fresh();
        x.thing(0, 0, 9);
        x.wind(3, 9);
        bar("quorum 1;favour 1 m=1|m=2&t=9");
        x.move(1);
        x.move(2);
        due("15: when(1)", x.when(1), 4);
        due("15: when(2)", x.when(2), 20);
        due("15: when(0)", x.when(0), -5);
        x.carry(0, true);
        due("15: when(0), CARRIED", x.when(0), 0);
        due("15: when(5)", x.when(5), -1);
        due("15: when(-1)", x.when(-1), -1);
        fresh();
        x.thing(0, 0, 9);
        x.thing(0, 0, 9);
        x.wind(3, 9);
        x.move(1);
        bar("favour 1 t=9;resent 2 c>0");
        due("15: nothing is lost", x.when(1), 20);
        due("15: TIDE stays", x.told(0), 0);
        fresh();
        x.thing(0, 0, 9);
        x.wind(3, 9);
        x.move(1);
        bar("quorum 1;favour 1 m=1");
        x.wind(3, 0);
        x.pass(1);
        due("15: not by then", x.when(1), -5);
    }

    private static void order() {
        fresh();
        due("16: none IN, all alike", x.order(0, -1), 5);
        due("16: the first row", x.order(0, 0) * 1000 + x.order(0, 4), 4);
        due("16: as told but for two", x.order(17, -1), 3);
        due("16: k 5", x.order(0, 5), -1);
        due("16: k -2", x.order(99, -2), -1);
        due("16: set 32", x.order(32, -1), -2);
        due("16: set -1", x.order(-1, 0), -2);
        x.thing(0, 0, 0);
        bar("quorum 1;favour 1 m=2&c=0|m=4&c=1|m=1&c=2");
        due("16: 2, 4, 1 of all", x.order(22, -1), 5);
        due("16: the row is 0, 2, 3, 4, 1", rowOf(22), 2341);
        due("16: 2 alone is by 4 ahead of it", rowOf(4), 1342);
        due("16: all of 2 alone", x.order(4, -1), 5);
        due("16: 2 and 4", rowOf(20), 1234);
        due("16: all but 1, as far as it goes", x.order(29, -1), 3);
        due("16: none at all", x.order(0, -1), 4);
        bar("quorum 1;favour 1 m=4&c=0|m=3&c=1|m=2&c=2|m=1&c=3|m=0&c=4");
        due("16: the last row of all", rowOf(31), 43210);
        bar("quorum 1;favour 1 m=1&c=0|m=4&c=1|m=3&c=2|m=0&c=3|m=2&c=4");
        due("16: a row amid", rowOf(31), 14302);
        bar("quorum 1;favour 1 m=2&c=0|m=0&c=1|m=4&c=2|m=3&c=3|m=1&c=4");
        due("16: another", rowOf(31), 20431);
        due("16: THE AGENDA stays", x.count(2), 0);
        due("16: nothing changed", x.told(2) + x.told(0), 0);
    }

    private static int rowOf(int set) {
        int row = 0;
        for (int k = 0; k < 5; k++) {
            row = row * 10 + x.order(set, k);
        }
        return row;
    }

    private static void blows() {
        fresh();
        x.thing(0, 0, 2);
        x.thing(0, 0, 4);
        x.thing(0, 0, 7);
        bar("favour 1 p<2;resent 1 p=2&m=1;resent 3 p=1&m=2");
        x.set(2, 0, 2);
        x.move(1);
        x.move(2);
        due("17: from 4 on, till 2 comes in", x.blows(1), 112);
        due("17: never", x.blows(2), 0);
        due("17: not on THE AGENDA", x.blows(3), 0);
        x.carry(3, true);
        due("17: CARRIED already", x.blows(3), 1023);
        x.carry(0, true);
        due("17: 3 more", x.blows(1), 14);
        x.pass(3);
        x.carry(0, false);
        x.carry(1, false);
        due("17: of another TIDE", x.blows(1), 112);
        due("17: WINDS stay", x.told(13), 5);
        due("17: motion 5", x.blows(5), -1);
        due("17: motion -1", x.blows(-1), -1);
    }

    private static void stop() {
        fresh();
        x.thing(0, 0, 0);
        x.thing(0, 0, 0);
        x.thing(0, 0, 0);
        x.thing(0, 0, 9);
        bar("favour 1 m=1;favour 1 p=2&m=2;resent 1 p=1&m=2;favour 1 p=0&m=3");
        x.move(1);
        x.move(2);
        x.move(3);
        due("18: two of three, the least bits", x.stop(1), 3);
        due("18: not CARRIED by all", x.stop(2), 0);
        due("18: one alone", x.stop(3), 1);
        x.lose(1, true);
        due("18: one more by the QUORUM", x.stop(1), 1);
        due("18: one more for 2", x.stop(2), 1);
        x.carry(4, true);
        due("18: not on THE AGENDA", x.stop(4), -5);
        x.carry(1, true);
        due("18: CARRIED, and no house would keep it", x.stop(1), -5);
        due("18: motion 5", x.stop(5), -1);
        due("18: motion -1", x.stop(-1), -1);
        due("18: LOST stay", x.told(3), 5);
        fresh();
        for (int i = 0; i < 6; i++) {
            x.thing(0, 0, 0);
        }
        x.set(5, 0, 9);
        bar("quorum 0;favour 1 p<9");
        x.move(0);
        due("18: all six", x.stop(0), 63);
        bar("quorum 0;favour 1 p=5;resent 1 p<5");
        due("18: the heavy one", x.stop(0), 32);
    }

    // ---- 19 .. 24

    private static void see() {
        fresh();
        due("19: see", x.see(0, 0, false), 1);
        due("19: n 20", x.see(4, 20, true), 2);
        due("19: motion 5", x.see(5, 99, true), -1);
        due("19: motion -2", x.see(-2, 0, true), -1);
        due("19: n 21", x.see(0, 21, true), -2);
        due("19: n -1", x.see(0, -1, true), -2);
        x.see(0, 0, false);
        x.see(0, 0, false);
        due("19: the fifth", x.see(0, 0, false), 5);
        due("19: full", x.see(0, 0, false), -4);
        due("19: BAD ahead of FULL", x.see(0, 21, false), -2);
        due("19: count(3)", x.count(3), 5);
        due("19: none then", x.see(-1, 99, false), 0);
        due("19: count(3) then", x.count(3), 0);
    }

    private static void drifts() {
        fresh();
        x.thing(0, 0, 0);
        due("20: nothing SEEN", x.drifts(0), 1023);
        bar("quorum 1;favour 1 m=1|m=2&t=3");
        x.wind(0, 2);
        x.wind(1, 4);
        x.wind(2, 3);
        x.wind(3, 6);
        x.move(1);
        x.move(2);
        x.see(1, 1, false);
        due("20: not at TIDE 0", x.drifts(0), 1016);
        x.see(1, 2, true);
        due("20: at TIDE 1", x.drifts(0), 24);
        x.see(2, 4, true);
        due("20: at TIDE 3", x.drifts(0), 24);
        x.see(2, 0, true);
        due("20: not now", x.drifts(0), 0);
        x.see(-1, 0, true);
        x.see(2, 4, true);
        due("20: up to 6", x.drifts(0), 127);
        x.pass(1);
        due("20: 4 from now is TIDE 4, at which up to 2 are IN", x.drifts(0), 120);
        x.see(-1, 0, true);
        x.see(2, 3, true);
        due("20: 3 from now", x.drifts(0), 127);
        due("20: DRIFT stays", x.of(0, 3), 0);
        due("20: thing 1", x.drifts(1), -1);
        due("20: thing -1", x.drifts(-1), -1);
        x.lose(0, true);
        due("20: LOST", x.drifts(0), 0);
    }

    private static void firm() {
        fresh();
        x.thing(1, 4, 0);
        due("21: nothing SEEN", x.firm(0, 0), 10);
        due("21: the least", x.firm(0, 1), 0);
        bar("quorum 1;resent 3 m=2;resent 6 m=0;favour 1 v=8&m=1");
        x.move(2);
        x.move(0);
        x.move(1);
        x.see(2, 1, true);
        due("21: above 3", x.firm(0, 0), 6);
        due("21: 4 on", x.firm(0, 1), 4);
        x.see(0, 2, false);
        due("21: up to 6", x.firm(0, 0), 3);
        due("21: 4 still", x.firm(0, 1), 4);
        x.see(1, 2, true);
        due("21: none", x.firm(0, 0), 0);
        due("21: no least", x.firm(0, 1), -5);
        due("21: v stays", x.of(0, 1), 4);
        x.see(-1, 0, true);
        bar("quorum 1;resent 8 m=4");
        x.move(4);
        x.see(4, 1, true);
        due("21: 9 alone", x.firm(0, 0), 1);
        due("21: 9 is the least", x.firm(0, 1), 9);
        due("21: what 2", x.firm(0, 2), -1);
        due("21: what -1", x.firm(0, -1), -1);
        due("21: thing 1", x.firm(1, 0), -1);
    }

    private static void power(int thing, long above, long below) {
        due("22: power of " + thing + ", above", x.power(thing, 0), above);
        due("22: power of " + thing + ", below", x.power(thing, 1), below);
    }

    private static void power() {
        fresh();
        for (int i = 0; i < 4; i++) {
            x.thing(0, 0, 0);
        }
        power(0, 1, 4);
        x.set(0, 0, 3);
        // 3, 1, 1, 1 of 6: the first turns it but from the first place.
        power(0, 3, 4);
        power(1, 1, 12);
        x.set(0, 0, 2);
        // 2, 1, 1, 1 of 5: the first turns it with 1 or 2 ones ahead: 2 of 4 places.
        power(0, 1, 2);
        power(3, 1, 6);
        x.set(3, 1, 9);
        // 2, 1, 1 of 4: more than 2 are needed.
        power(0, 2, 3);
        power(1, 1, 6);
        power(3, 0, 1);
        x.lose(1, true);
        // 2, 1 of 3: the first alone is enough.
        power(0, 1, 1);
        power(1, 0, 1);
        power(2, 0, 1);
        x.set(0, 0, 0);
        x.set(2, 0, 0);
        power(0, 0, 1);
        due("22: thing 4", x.power(4, 0), Long.MIN_VALUE);
        due("22: thing -1", x.power(-1, 0), Long.MIN_VALUE);
        due("22: part 2", x.power(0, 2), Long.MIN_VALUE);
        due("22: part -1", x.power(0, -1), Long.MIN_VALUE);
        fresh();
        for (int i = 0; i < 6; i++) {
            x.thing(0, 0, 0);
            x.set(i, 0, i + 1);
        }
        // 1 .. 6 of 21: more than the half is 11 and above. 10 ahead of the 1 are 4 + 6 and 2 + 3 + 5, of the 720
        // rows 2 * 6 and 6 * 2.
        power(0, 1, 30);
        power(1, 1, 10);
        power(5, 1, 3);
    }

    private static void odds() {
        fresh();
        x.thing(0, 0, 2);
        x.thing(0, 0, 4);
        x.thing(0, 0, 9);
        bar("favour 1 m=1;favour 1 m=2&p=2;resent 9 m=3");
        x.move(1);
        x.move(2);
        x.move(3);
        due("23: odds(1, 0)", x.odds(1, 0), 3);
        due("23: odds(1, 1)", x.odds(1, 1), 5);
        due("23: odds(2, 0)", x.odds(2, 0), 1);
        due("23: odds(2, 1)", x.odds(2, 1), 10);
        due("23: odds(3, 0)", x.odds(3, 0), 0);
        due("23: odds(3, 1)", x.odds(3, 1), 1);
        x.carry(4, true);
        due("23: odds(4, 0)", x.odds(4, 0), 1);
        due("23: odds(4, 1)", x.odds(4, 1), 1);
        due("23: motion 5", x.odds(5, 0), Long.MIN_VALUE);
        due("23: motion -1", x.odds(-1, 0), Long.MIN_VALUE);
        due("23: part 2", x.odds(0, 2), Long.MIN_VALUE);
        due("23: part -1", x.odds(0, -1), Long.MIN_VALUE);
        due("23: WIND stays", x.told(10), 5);
    }

    private static void mean() {
        fresh();
        due("24: there are none", x.mean(0), Long.MIN_VALUE);
        due("24: none below", x.mean(1), Long.MIN_VALUE);
        x.thing(0, 0, 0);
        x.thing(0, 0, 0);
        x.thing(0, 0, 9);
        x.thing(0, 0, 0);
        x.thing(0, 0, 0);
        x.set(0, 0, 9);
        x.set(2, 0, 9);
        x.lose(3, true);
        x.set(1, 0, 8);
        due("24: 18 by 3 above", x.mean(0), 6);
        due("24: 18 by 3 below", x.mean(1), 1);
        x.set(1, 0, 0);
        x.set(0, 0, 4);
        due("24: 5 by 3 above", x.mean(0), 5);
        due("24: 5 by 3 below", x.mean(1), 3);
        x.set(0, 0, 0);
        x.set(4, 0, 0);
        due("24: 0 by 3 above", x.mean(0), 0);
        due("24: 0 by 3 below", x.mean(1), 1);
        x.set(0, 0, 7);
        x.lose(1, true);
        x.lose(4, true);
        due("24: the first alone, above", x.mean(0), 7);
        due("24: the first alone, below", x.mean(1), 1);
        due("24: part 2", x.mean(2), Long.MIN_VALUE);
        due("24: part -1", x.mean(-1), Long.MIN_VALUE);
    }

    // ---- 25 .. 28

    private static void plan() {
        fresh();
        x.thing(0, 0, 0);
        due("25: a TIDE", x.plan(0, 12345), 1);
        due("25: LOST", x.plan(1, 0), 2);
        due("25: not LOST", x.plan(2, 0), 3);
        due("25: a MOTION", x.plan(3, 4), 4);
        due("25: what 4", x.plan(4, 0), -1);
        due("25: what -2", x.plan(-2, 0), -1);
        due("25: THING 1 by 1", x.plan(1, 1), -1);
        due("25: THING -1 by 2", x.plan(2, -1), -1);
        due("25: MOTION 5", x.plan(3, 5), -1);
        due("25: MOTION -1", x.plan(3, -1), -1);
        for (int i = 5; i <= 8; i++) {
            due("25: row " + i, x.plan(0, -1), i);
        }
        due("25: full", x.plan(0, 0), -4);
        due("25: NONE ahead of FULL", x.plan(1, 1), -1);
        due("25: count(4)", x.count(4), 8);
        due("25: none then", x.plan(-1, 99), 0);
        due("25: count(4) then", x.count(4), 0);
    }

    private static void done() {
        fresh();
        x.thing(0, 0, 0);
        x.thing(0, 0, 0);
        x.thing(0, 0, 9);
        bar("favour 1 m=1;favour 1 m=2&p=1");
        x.move(1);
        x.move(2);
        due("26: no PLAN", x.done(0), 0);
        due("26: no PLAN, IN", x.done(1), 3);
        x.plan(0, 0);
        due("26: one TIDE", x.done(0), 6);
        x.plan(1, 1);
        due("26: IN", x.done(1), 1);
        x.plan(3, 2);
        x.plan(0, 0);
        due("26: no house then", x.done(0), 2);
        x.plan(2, 1);
        due("26: IN again", x.done(1), 3);
        x.plan(0, 0);
        due("26: a house again", x.done(0), 6);
        x.plan(3, 1);
        x.plan(3, 0);
        due("26: not CARRIED any more", x.done(0), 4);
        due("26: what 2", x.done(2), -1);
        due("26: what -1", x.done(-1), -1);
        due("26: nothing changed", x.told(2) + x.told(0) + x.of(1, 4), 0);
    }

    private static void book() {
        fresh();
        x.thing(0, 0, 0);
        due("27: book", x.book(0, 9), 1);
        due("27: thing 1", x.book(1, 99), -1);
        due("27: thing -2", x.book(-2, 0), -1);
        due("27: drift 10", x.book(0, 10), -2);
        due("27: drift -1", x.book(0, -1), -2);
        for (int i = 2; i <= 8; i++) {
            due("27: row " + i, x.book(0, 0), i);
        }
        due("27: full", x.book(0, 0), -4);
        due("27: BAD ahead of FULL", x.book(0, 10), -2);
        due("27: count(5)", x.count(5), 8);
        due("27: none then", x.book(-1, 99), 0);
        due("27: count(5) then", x.count(5), 0);
    }

    private static void looked() {
        fresh();
        due("28: no BOOK", x.looked(), -5);
        x.thing(0, 0, 3);
        x.thing(0, 0, 4);
        x.book(0, 3);
        x.book(1, 4);
        due("28: all as told", x.looked(), -5);
        x.book(1, 5);
        due("28: the third", x.looked(), 2);
        x.set(1, 1, 5);
        due("28: the second", x.looked(), 1);
        x.set(0, 1, 0);
        due("28: the first", x.looked(), 0);
    }

    // ---- 29 .. 34

    private static void act(int thing, int act, int with, int want, int... bodies) {
        due("29: act(" + thing + ", " + act + ", " + with + ")", x.act(thing, act, with), want);
        due("34: bodies of act(" + thing + ", " + act + ")", x.count(7), bodies.length);
        for (int i = 0; i < bodies.length; i++) {
            due("30: trace(" + i + ") of act(" + thing + ", " + act + ")", x.trace(i), bodies[i]);
        }
        due("30: behind the trace of act(" + thing + ", " + act + ")", x.trace(bodies.length), -1);
    }

    private static void act() {
        fresh();
        act(0, 0, 5, 0);
        x.thing(5, 4, 0);
        x.thing(0, 2, 0);
        x.thing(1, 3, 0);
        x.thing(2, 7, 0);
        x.thing(4, 5, 0);
        x.thing(6, 9, 0);
        act(1, 0, 10, 11, 1);
        act(1, 1, 10, 9, 2, 1);
        act(1, 2, 10, 18, 3, 2, 1);
        act(2, 0, 10, 32, 11, 1);
        act(2, 1, 10, 29, 2, 11, 1);
        act(2, 2, -1, -8, 3, 2, 11, 1);
        act(3, 0, 10, 13, 1);
        act(3, 1, 10, -6, 21, 2, 1);
        act(3, 2, 10, -12, 3, 21, 2, 1);
        act(4, 0, 10, 34, 11, 1);
        act(4, 2, 10, 62, 41, 3, 2, 11, 1, 11, 1);
        act(5, 0, 10, 15, 1);
        act(5, 1, 10, 15, 61, 2, 1);
        act(5, 2, 10, 25, 31, 3, 61, 2, 1);
        act(0, 0, 10, 10, 51, 1);
        act(0, 1, 10, -6, 21, 2, 51, 1);
        act(0, 2, 10, -12, 3, 21, 2, 51, 1);
        act(1, 0, Integer.MAX_VALUE, Integer.MIN_VALUE, 1);
        act(2, 0, Integer.MAX_VALUE, Integer.MAX_VALUE * 3 + 2, 11, 1);
        act(1, 3, 1, 0);
        act(1, -1, 1, 0);
        act(1, 2, 0, -2, 3, 2, 1);
        act(6, 0, 1, 0);
        act(-1, 0, 1, 0);
        fresh();
        for (int i = 0; i < 6; i++) {
            x.thing(i < 5 ? 5 : 3, 1, 0);
        }
        act(3, 0, 6, 10, 51, 1);
        act(5, 2, 3, 9, 31, 3, 2, 1);
    }

    private static void trace() {
        fresh();
        due("30: no act", x.trace(0), -1);
        x.thing(4, 0, 0);
        x.act(0, 2, 1);
        due("30: trace(6)", x.trace(6), 1);
        due("30: trace(7)", x.trace(7), -1);
        due("30: trace(-1)", x.trace(-1), -1);
        due("30: trace(20)", x.trace(20), -1);
        x.act(0, 0, 1);
        due("30: of the latest act", x.trace(2), -1);
    }

    private static void as() {
        fresh();
        due("31: no thing", x.as(0, 0), -1);
        int[] kinds = {0, 1, 2, 4, 5, 6};
        int[][] under = {{0}, {0, 1}, {0, 2}, {0, 1, 4}, {0, 2, 5}, {0, 3, 6}};
        for (int i = 0; i < 6; i++) {
            x.thing(kinds[i], 9 - i, 0);
            for (int k = 0; k < 7; k++) {
                int want = -6;
                for (int above : under[i]) {
                    want = above == k ? 9 - i : want;
                }
                due("31: KIND " + kinds[i] + " as " + k, x.as(i, k), want);
            }
        }
        due("31: k 7", x.as(0, 7), -1);
        due("31: k -1", x.as(0, -1), -1);
        due("31: thing 6", x.as(6, 0), -1);
        due("31: thing -1", x.as(-1, 0), -1);
    }

    private static void image() {
        fresh();
        due("32: nothing yet", x.image(), 0);
        x.thing(0, 0, 0);
        x.thing(0, 0, 0);
        due("32: two", x.image(), 2);
        x.thing(0, 0, 0);
        due("32: by the later one", x.undo(), 2);
    }

    private static void undo() {
        fresh();
        due("33: none", x.undo(), -3);
        x.thing(6, 4, 3);
        x.row(0, 1, 7);
        x.set(0, 0, 5);
        bar("quorum 4;favour 6 m=1");
        x.wind(2, 8);
        x.move(3);
        x.carry(2, true);
        x.pass(5);
        x.see(1, 2, true);
        x.plan(0, 0);
        x.book(0, 4);
        x.feed('q');
        x.image();
        bar("uorum 3");
        x.feed('x');
        x.feed('x');
        x.thing(1, 1, 1);
        x.row(0, 1, 1);
        x.set(0, 0, 1);
        x.set(0, 1, 1);
        x.lose(0, true);
        x.wind(2, 1);
        x.move(-1);
        x.move(4);
        x.move(1);
        x.carry(2, false);
        x.pass(1);
        x.see(-1, 0, true);
        x.plan(-1, 0);
        x.book(-1, 0);
        x.act(0, 2, 1);
        due("33: undo", x.undo(), 1);
        int[] counts = {1, 1, 1, 1, 1, 1, 1, 5};
        for (int what = 0; what < 8; what++) {
            due("33: count(" + what + ")", x.count(what), counts[what]);
        }
        due("33: THE TRACE stays", x.trace(0), 31);
        due("33: TIDE", x.told(0), 5);
        due("33: QUORUM", x.told(1), 4);
        due("33: CARRIED", x.told(2), 4);
        due("33: WINDS", x.told(12), 8);
        due("33: WEIGHT", x.of(0, 2), 5);
        due("33: DRIFT", x.of(0, 3), 3);
        due("33: LOST", x.of(0, 4), 0);
        due("33: LIKES, by BAR and ROW", x.of(0, 11), 6);
        due("33: THE AGENDA", x.move(3), -3);
        due("33: BOOK", x.looked(), 0);
        due("33: SEEN", x.drifts(0), 0);
        due("33: THE TAPE", bar("uorum 9"), 1);
        due("33: once more", x.undo(), 1);
        due("33: QUORUM once more", x.told(1), 4);
        // A place that is made anew has nothing of the one that was there.
        fresh();
        x.image();
        x.thing(6, 9, 9);
        for (int k = 0; k < 4; k++) {
            x.row(0, k, 9);
        }
        x.set(0, 0, 9);
        x.lose(0, true);
        x.undo();
        x.thing(6, 1, 1);
        for (int k = 0; k < 4; k++) {
            due("33: ROW anew", x.row(0, k, 0), 0);
        }
        due("33: WEIGHT anew", x.of(0, 2), 1);
        due("33: LOST anew", x.of(0, 4), 0);
    }

    private static void count() {
        fresh();
        x.thing(0, 0, 0);
        x.feed('x');
        x.feed('x');
        x.move(1);
        x.see(0, 0, false);
        x.plan(0, 0);
        x.plan(0, 0);
        x.book(0, 0);
        x.book(0, 0);
        x.book(0, 0);
        x.act(0, 1, 0);
        int[] counts = {1, 0, 1, 1, 2, 3, 2, 2};
        for (int what = 0; what < 8; what++) {
            due("34: count(" + what + ")", x.count(what), counts[what]);
        }
        due("34: count(8)", x.count(8), -1);
        due("34: count(-1)", x.count(-1), -1);
    }
}
