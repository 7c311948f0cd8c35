import java.io.IOException;
import java.io.UncheckedIOException;
import java.nio.file.Files;
import java.nio.file.Path;

/** What the tests share: due answers, sentences of the document, and texts fed by three numbers at a time. */
final class Check {
    private static final Path DOCUMENT = Path.of("../shared/DOC.md");
    private static int checks = 0;
    private static int wrong = 0;
    private static String document = "";
    private static String sentence = "";

    private Check() {
    }

    static void due(String what, long got, long want) {
        checks++;
        if (got != want) {
            wrong++;
            System.out.println(sentence + what + " answered " + got + ", due is " + want);
        }
    }

    static void due(String what, boolean got, boolean want) {
        due(what, got ? 1 : 0, want ? 1 : 0);
    }

    /** The words of the document that the checks behind it stand for; they must stand there. */
    static void says(String words) {
        sentence = "";
        if (Files.isReadable(DOCUMENT)) {
            due("the document says: " + words, document().contains(words), true);
        }
        sentence = "[" + words + "] ";
    }

    private static String document() {
        if (document.isEmpty()) {
            try {
                document = Files.readString(DOCUMENT);
            } catch (IOException e) {
                throw new UncheckedIOException(e);
            }
        }
        return document;
    }

    /** Ends the test: exit code 1 if an answer was wrong. */
    static void end() {
        System.out.println(checks + " checks, " + wrong + " wrong");
        if (wrong != 0) {
            System.exit(1);
        }
    }

    static int feed(VoteAgainst x, String text) {
        int signs = x.count(12);
        for (int from = 0; from < text.length(); from += 24) {
            signs = x.feed(eight(text, from), eight(text, from + 8), eight(text, from + 16));
        }
        return signs;
    }

    private static long eight(String text, int from) {
        long packed = 0;
        for (int i = from; i < from + 8; i++) {
            packed = packed << 8 | (i < text.length() ? text.charAt(i) : 0);
        }
        return packed;
    }

    static int republic(VoteAgainst x, String text) {
        feed(x, text);
        return x.republic();
    }

    static int years(VoteAgainst x, String text) {
        feed(x, text);
        return x.years();
    }

    /** A new object with this republic, which has no fault. */
    static VoteAgainst told(String text) {
        VoteAgainst x = new VoteAgainst();
        due("republic of " + text, republic(x, text), 0);
        return x;
    }

    static int fault(int kind, int place) {
        return kind + 16 * place;
    }

    /** A republic's text with ^ ahead of the token that is wrong. */
    static void wrongRepublic(int kind, String marked) {
        String text = withoutMark(marked);
        due("republic of " + text, republic(new VoteAgainst(), text), fault(kind, marked.indexOf('^')));
    }

    /** Likewise of years, told to this republic. */
    static void wrongYears(int kind, String people, String marked) {
        String text = withoutMark(marked);
        due("years of " + text, years(told(people), text), fault(kind, marked.indexOf('^')));
    }

    private static String withoutMark(String marked) {
        int place = marked.indexOf('^');
        return marked.substring(0, place) + marked.substring(place + 1);
    }

    /** So many people a, b, .. of one kind, the first the oldest, each a year older than the next one, envy 1. */
    static String people(int number, String kind) {
        StringBuilder text = new StringBuilder();
        for (int i = 0; i < number; i++) {
            text.append("person ").append((char) ('a' + i)).append(' ').append(kind).append(" age ").append(9 - i).append(" envy 1;");
        }
        return text.toString();
    }

    /** All that can be seen without a change, in 189 calls. */
    static String seen(VoteAgainst x) {
        StringBuilder seen = new StringBuilder();
        for (int what = 0; what < 13; what++) {
            seen.append(" count ").append(x.count(what));
        }
        for (int person = 0; person < 7; person++) {
            for (int what = 0; what < 8; what++) {
                seen.append(" person ").append(x.person(person, what));
            }
            for (int other = 0; other < 7; other++) {
                seen.append(' ').append(x.grudge(person, other)).append(' ').append(x.against(person, other));
            }
            seen.append(" next ").append(x.next(person)).append(" bring ").append(x.bring(person));
        }
        for (int what = 0; what < 3; what++) {
            seen.append(" judged ").append(x.judged(what)).append(" bars ").append(x.bars(what));
        }
        return seen.append(" governs ").append(x.governs()).append(" falls ").append(x.falls()).toString();
    }
}
