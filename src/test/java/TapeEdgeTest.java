/**
 * The edges of THE TAPE, of BARS and CLAUSES: behind each kind of place in a bar each of the 128 signs, so that the
 * last one taken and the first one not are met at both ends; lengths, numbers, what is open.
 */
public final class TapeEdgeTest {
    private static final String DIGITS = "0123456789";
    private static final String FACTS = "pkvmct";
    private static final String FACTORS = "!(" + FACTS;
    private static final String TEN = "quorum 1;quorum 1;quorum 1;quorum 1;quorum 1;quorum 1;quorum 1;quorum 1;quorum 1;"
        + "quorum 0";

    public static void main(String[] args) {
        signs();
        nextSigns();
        prefixes();
        numbers();
        open();
        lengths();
        clauses();
        bars();
        Check.end("TapeEdgeTest");
    }

    private static int answer(String text) {
        return Check.bar(new FlotsamQuorum(), text);
    }

    private static void fault(String sentence, String text, int place) {
        Check.due("3: " + sentence + ": " + text, answer(text), -10 - place);
    }

    private static void whole(String sentence, String text) {
        Check.due("3: " + sentence + ": " + text, answer(text), 0);
    }

    // ---- 2

    private static void signs() {
        FlotsamQuorum low = new FlotsamQuorum();
        FlotsamQuorum high = new FlotsamQuorum();
        for (int i = 0; i < 64; i++) {
            Check.due("2: sign " + i, low.feed(i), i + 1);
            Check.due("2: sign " + (64 + i), high.feed(64 + i), i + 1);
        }
        FlotsamQuorum x = new FlotsamQuorum();
        for (int i = 1; i <= 100; i++) {
            Check.due("2: 100 at most", x.feed(i), i);
        }
        Check.due("2: FULL behind 100", x.feed(0), -4);
        Check.due("3: a FAULT at the first of 100", x.bar(), -10);
        Check.due("2: room again behind a FAULT", x.feed(0), 1);
        x.bar();
        Check.feed(x, "quorum 1");
        Check.due("2: the first again, behind a BAR", x.bar() * 1000 + x.feed('f'), 1);
        for (int i = 2; i <= 100; i++) {
            Check.due("2: 100 again", x.feed(0), i);
        }
        Check.due("2: FULL again", x.feed(0), -4);
    }

    // ---- FAULT: the first byte with which no BAR can go on

    /** All signs of next, and no other, can come behind the text. */
    private static void next(String text, String next) {
        for (char sign = 0; sign < 128; sign++) {
            int answer = answer(text + sign);
            String sentence = "3: behind '" + text + "' the sign " + (int) sign;
            if (next.indexOf(sign) < 0) {
                Check.due(sentence + " is the FAULT", answer, -10 - text.length());
            } else if (answer != 0) {
                Check.due(sentence + " goes on", answer, -10 - text.length() - 1);
            }
        }
    }

    private static void nextSigns() {
        for (String ahead : new String[] {"", "quorum 12;", "favour 1 p=10;", "resent 0 (!t<0);"}) {
            next(ahead, "qfr");
            for (String word : new String[] {"quorum ", "favour ", "resent "}) {
                for (int i = 1; i < word.length(); i++) {
                    next(ahead + word.substring(0, i), word.substring(i, i + 1));
                }
                next(ahead + word, DIGITS);
            }
            next(ahead + "quorum 0", ";");
            next(ahead + "quorum 1", DIGITS + ";");
            next(ahead + "quorum 9", DIGITS + ";");
            next(ahead + "quorum 10", ";");
            next(ahead + "quorum 99", ";");
        }
        for (String word : new String[] {"favour ", "resent "}) {
            next(word + "0", " ");
            next(word + "1", DIGITS + " ");
            next(word + "9", DIGITS + " ");
            next(word + "10", " ");
            next(word + "99", " ");
            String e = word + "1 ";
            for (String ahead : new String[] {"", "!", "(", "!!!!", "((((", "(!(!", "p=1|", "p=10&", "!p=0|", "(p=9)&",
                "!!!!!p=1&", "(((((p=1)))))|", "(((((p=1))))&", "!(!(p=1)&"}) {
                next(e + ahead, FACTORS);
            }
            for (String ahead : new String[] {"!!!!!", "(((((", "!(!(!", "(!(!(", "(p=1|((((", "((((p=1)&(("}) {
                next(e + ahead, FACTS);
            }
            for (char fact : FACTS.toCharArray()) {
                next(e + fact, "<=>");
            }
            for (char sign : "<=>".toCharArray()) {
                next(e + "t" + sign, DIGITS);
                next(e + "p" + sign + "0", ";|&");
                next(e + "k" + sign + "1", DIGITS + ";|&");
                next(e + "v" + sign + "12", ";|&");
                next(e + "!!!!!c" + sign + "12", ";|&");
                next(e + "(m" + sign + "0", ")|&");
                next(e + "!(m" + sign + "9", DIGITS + ")|&");
            }
            next(e + "(p=0)", ";|&");
            next(e + "((p=0)", ")|&");
            next(e + "!((p=0|k=10)", ")|&");
            next(e + "(((((p=0)))))", ";|&");
        }
        String tenBegun = TEN.substring(0, TEN.length() - 1);
        next(tenBegun, DIGITS);
        next(tenBegun + "1", DIGITS);
        next(tenBegun + "12", "");
        next(TEN, "");
    }

    /** The size, if it ends too early: no byte of a whole bar is a FAULT. */
    private static void prefixes() {
        String text = "quorum 10;favour 20 !(p<1&!k=20|v>3)&(m=4|!!(c<5));resent 0 t>99&(((((p=0)))))|!!!!!k=1;quorum 0";
        Check.due("3: the bar of 96", text.length(), 96);
        for (int size = 0; size < text.length(); size++) {
            String part = text.substring(0, size);
            int last = part.lastIndexOf(';') + 1;
            String clause = part.substring(last);
            boolean isQuorum = clause.startsWith("quorum ") && clause.length() > 7;
            boolean isTest = clause.matches("(favour|resent) \\d+ .*[<=>]\\d+\\)*");
            long stillOpen = part.chars().filter(c -> c == '(').count() - part.chars().filter(c -> c == ')').count();
            boolean isWhole = isQuorum || isTest && stillOpen == 0;
            Check.due("3: ends at " + size + ": " + part, answer(part), isWhole ? 0 : -10 - size);
        }
        whole("all of it", text);
    }

    // ---- numbers: 1 or 2 digits, no 0 ahead of another

    private static int sumBy(String number) {
        FlotsamQuorum x = new FlotsamQuorum();
        x.thing(0, 0, 0);
        return Check.bar(x, "favour " + number + " p=0") == 0 ? x.of(0, 10) : -1;
    }

    private static void numbers() {
        for (int n = 0; n < 100; n++) {
            FlotsamQuorum x = new FlotsamQuorum();
            Check.due("3: quorum " + n, Check.bar(x, "quorum " + n), 0);
            Check.due("12: QUORUM is " + n, x.told(1), n);
            Check.due("5: favour " + n, sumBy(Integer.toString(n)), n);
            whole("a test's number", "resent 1 k>" + n);
        }
        for (int n = 0; n < 10; n++) {
            fault("no 0 ahead of another", "quorum 0" + n, 8);
            fault("no 0 ahead of another", "favour 0" + n + " p=1", 8);
            fault("no 0 ahead of another", "resent 0" + n + " p=1", 8);
            fault("no 0 ahead of another", "resent 1 p=0" + n, 12);
            fault("1 or 2 digits", "quorum 10" + n, 9);
            fault("1 or 2 digits", "favour 99" + n + " p=1", 9);
            fault("1 or 2 digits", "favour 1 t<10" + n, 13);
        }
        fault("1 digit at least", "quorum ", 7);
        fault("1 digit at least", "favour  p=1", 7);
        fault("1 digit at least", "favour 1 p=", 11);
        fault("one blank, not two", "quorum  1", 7);
        fault("one blank, not two", "favour 1  p=1", 9);
        fault("one blank, not none", "quorum1", 6);
        fault("one blank, not none", "favour 1p=1", 8);
        fault("none behind the last part", "quorum 1 ", 8);
        fault("none behind the last part", "favour 1 p=1 ", 12);
        fault("none about ;", "quorum 1; quorum 1", 9);
        fault("none in E", "favour 1 p =1", 10);
        fault("quorum has no E", "quorum 1 p=1", 8);
        fault("favour has one", "favour 1", 8);
        fault("resent has one", "resent 1;quorum 1", 8);
    }

    // ---- at most 5 of ! and ( are open

    private static void open() {
        for (int bits = 0; bits < 64; bits++) {
            StringBuilder six = new StringBuilder("favour 7 ");
            StringBuilder closing = new StringBuilder();
            int nots = 0;
            for (int i = 0; i < 6; i++) {
                boolean isNot = (bits >> i & 1) == 1;
                nots += isNot && i < 5 ? 1 : 0;
                six.append(isNot ? '!' : '(');
                closing.append(isNot || i == 5 ? "" : ")");
            }
            fault("the sixth", six + "p=0", 14);
            FlotsamQuorum x = new FlotsamQuorum();
            x.thing(0, 0, 0);
            Check.due("3: five, " + bits, Check.bar(x, six.substring(0, 14) + "p=0" + closing), 0);
            Check.due("5: five, " + bits + ", hold as told", x.of(0, 10), nots % 2 == 0 ? 7 : 0);
        }
        whole("a ( till its )", "favour 1 (((((p=1)))))&(((((p=1)))))|(((((p=1)))))");
        whole("a ! till its F ends", "favour 1 !!!!!p=1&!!!!!p=1|!!!!!p=1");
        whole("a ! till its F ends, a ( the F", "favour 1 !(!(!p=1))&!(!(!p=1))");
        whole("room again in a (", "favour 1 (!!!!p=1&!!!!k=1|((((t=1)))))");
        whole("room again behind an inner )", "favour 1 (((((p=1))&((k=1)))))");
        whole("anew in each clause", "favour 1 (((((p=1)))));resent 1 (((((p=1)))))");
        fault("a ( stays open behind a T", "favour 1 (p=1|(((((p=1", 18);
        fault("a ! stays open in its (", "favour 1 !(p=1&((((p=1", 18);
        fault("one more by an inner )", "favour 1 (((((p=1)((", 18);
        fault("one more behind an inner )", "favour 1 (((((p=1)&((", 20);
        fault("a ) too much", "favour 1 (((((p=1))))))", 22);
        fault("a ) for none", "favour 1 p=1)", 12);
        fault("a ) too few", "favour 1 (((((p=1))));quorum 1", 21);
    }

    // ---- THE TAPE's 100, CLAUSES' 10, BARS' 5

    private static void lengths() {
        String most = "favour 1 p=1|p=2|p=3|p=4|p=5|k=1|k=2|k=3|k=4|k=5|v=1|v=2|v=3|v=4|v=5|m=1|m=2|m=3|m=4|c=1|c=2|";
        Check.due("3: a text of 93", most.length(), 93);
        String whole = most + "t=9|m=0";
        FlotsamQuorum x = new FlotsamQuorum();
        x.thing(0, 0, 0);
        Check.due("3: a BAR of 100", Check.bar(x, whole), 0);
        Check.due("5: its last sign counts", x.of(0, 10), 1);
        whole("a BAR of 99", most + "(t=10)");
        fault("the first of 100 bytes", "x" + whole.substring(1), 0);
        fault("the last of 100 bytes", most + "t=9|m=x", 99);
        fault("the size 99, it ends too early", most + "t=9|m=", 99);
        fault("the size 100, it ends too early", most + "t=10|k=", 100);
        FlotsamQuorum five = new FlotsamQuorum();
        five.thing(0, 0, 0);
        for (int i = 0; i < 5; i++) {
            Check.due("3: five BARS of 100", Check.bar(five, i < 4 ? whole : whole.replace("favour 1", "resent 9")), i);
        }
        Check.due("5: the fifth of 100 counts", five.of(0, 10), -9);
        Check.due("5: as it tells", five.of(0, 11), -9);
        FlotsamQuorum y = new FlotsamQuorum();
        Check.feed(y, whole + "x");
        Check.due("3: the sign that was refused is not read", y.bar(), 0);
    }

    private static void clauses() {
        whole("10 CLAUSES", TEN);
        fault("the ; of an 11th", TEN + ";", TEN.length());
        fault("an 11th", TEN + ";quorum 1", TEN.length());
        whole("9 CLAUSES", TEN.substring(0, 80));
        FlotsamQuorum x = new FlotsamQuorum();
        Check.bar(x, TEN);
        Check.due("3: the last n of the tenth", x.told(1), 0);
        FlotsamQuorum tenth = new FlotsamQuorum();
        tenth.thing(0, 0, 0);
        Check.due("3: 10 CLAUSES, an E in the tenth", Check.bar(tenth, TEN.substring(9) + ";resent 8 p=0"), 0);
        Check.due("5: the tenth counts", tenth.of(0, 10), -8);
        Check.due("3: an E in the first of 10", Check.bar(tenth, "favour 3 p=0;" + TEN.substring(9)), 1);
        Check.due("5: the first counts", tenth.of(0, 10), 3);
        fault("none at all", "", 0);
        fault("an empty one ahead", ";quorum 1", 0);
        fault("an empty one amid", "quorum 1;;quorum 1", 9);
        fault("an empty one behind", "quorum 1;", 9);
        String tests = "favour 1 p=0;favour 2 p=0;favour 4 p=0;favour 8 p=0;resent 16 p=0;favour 32 p=0;favour 64 p=0";
        FlotsamQuorum y = new FlotsamQuorum();
        y.thing(0, 0, 0);
        y.thing(0, 0, 0);
        Check.due("3: 7 of E", Check.bar(y, tests), 0);
        Check.due("5: each of them counts", y.of(0, 10), 111 - 16);
        Check.due("5: of those whose E holds", y.of(1, 10), 0);
    }

    private static void bars() {
        FlotsamQuorum x = new FlotsamQuorum();
        x.thing(0, 0, 0);
        Check.due("1: without a BAR no CLAUSES", x.of(0, 10), 0);
        Check.due("1: QUORUM 2 without", x.told(1), 2);
        Check.due("3: a FAULT first", Check.bar(x, "quorum 3x"), -18);
        Check.due("3: no BAR by a FAULT: QUORUM", x.told(1), 2);
        Check.due("3: numbered from 0 on", Check.bar(x, "quorum 3;favour 9 p=0;quorum 4"), 0);
        Check.due("3: the last n of quorum", x.told(1), 4);
        Check.due("3: it holds", x.of(0, 10), 9);
        Check.due("3: a FAULT at its end", Check.bar(x, "quorum 7;favour 1 p=0;"), -32);
        Check.due("3: the one that held holds: QUORUM", x.told(1), 4);
        Check.due("3: the one that held holds: CLAUSES", x.of(0, 10), 9);
        Check.due("3: the next number", Check.bar(x, "resent 2 p=0"), 1);
        Check.due("3: the newest one holds", x.of(0, 10), -2);
        Check.due("3: QUORUM 2 without one in it", x.told(1), 2);
        Check.due("3: number 2", Check.bar(x, "quorum 99;quorum 0"), 2);
        Check.due("3: of two the last", x.told(1), 0);
        Check.due("3: no CLAUSES of the older", x.of(0, 10), 0);
        Check.due("3: number 3", Check.bar(x, "quorum 0;quorum 99"), 3);
        Check.due("3: of two the last again", x.told(1), 99);
        Check.due("3: a FAULT ahead of the fifth", Check.bar(x, "q"), -11);
        Check.due("34: four BARS", x.count(1), 4);
        Check.due("3: number 4", Check.bar(x, "favour 5 p=0"), 4);
        Check.due("34: five BARS", x.count(1), 5);
        Check.due("3: FULL: 5", Check.bar(x, "favour 6 p=0"), -4);
        Check.due("3: the fifth holds", x.of(0, 10), 5);
        Check.due("3: THE TAPE stays", x.count(6), 12);
        Check.due("3: FULL again", x.bar(), -4);
        Check.due("3: THE TAPE stays, still", x.feed('x'), 13);
    }
}
