/** What the tests share: due answers, and texts fed by three numbers at a time. */
final class Check {
    private static int checks = 0;
    private static int wrong = 0;

    private Check() {
    }

    static void due(String what, long got, long want) {
        checks++;
        if (got != want) {
            wrong++;
            System.out.println(what + " answered " + got + ", due is " + want);
        }
    }

    static void due(String what, boolean got, boolean want) {
        due(what, got ? 1 : 0, want ? 1 : 0);
    }

    /** Ends the test: exit code 1 if an answer was wrong. */
    static void end() {
        System.out.println(checks + " checks, " + wrong + " wrong");
        if (wrong != 0) {
            System.exit(1);
        }
    }

    static int feed(VoteAgainst x, String text) {
        int signs = x.count(12);
        for (int from = 0; from < text.length(); from += 24) {
            signs = x.feed(eight(text, from), eight(text, from + 8), eight(text, from + 16));
        }
        return signs;
    }

    private static long eight(String text, int from) {
        long packed = 0;
        for (int i = from; i < from + 8; i++) {
            packed = packed << 8 | (i < text.length() ? text.charAt(i) : 0);
        }
        return packed;
    }

    static int republic(VoteAgainst x, String text) {
        feed(x, text);
        return x.republic();
    }

    static int years(VoteAgainst x, String text) {
        feed(x, text);
        return x.years();
    }

    /** A new object with this republic, which has no fault. */
    static VoteAgainst told(String text) {
        VoteAgainst x = new VoteAgainst();
        due("republic of " + text, republic(x, text), 0);
        return x;
    }

    static int fault(int kind, int place) {
        return kind + 16 * place;
    }
}
