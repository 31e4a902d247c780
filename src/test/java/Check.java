/** Counts the answers that are as due, and tells those that are not. */
final class Check {
    private static int passed = 0;
    private static int failed = 0;

    private Check() {
    }

    static void due(String sentence, long got, long want) {
        due(sentence, Long.toString(got), Long.toString(want));
    }

    static void due(String sentence, String got, String want) {
        if (got.equals(want)) {
            passed++;
        } else {
            failed++;
            System.out.println(sentence + "\n    answered " + got + "\n    due is   " + want);
        }
    }

    static void end(String test) {
        System.out.println(test + ": " + passed + " answers as due, " + failed + " not");
        if (failed > 0) {
            System.exit(1);
        }
    }

    static void feed(FlotsamQuorum x, String text) {
        for (int i = 0; i < text.length(); i++) {
            x.feed(text.charAt(i));
        }
    }

    static int bar(FlotsamQuorum x, String text) {
        feed(x, text);
        return x.bar();
    }
}
