import java.util.NoSuchElementException;
import java.util.Random;

/** Calls with the widest arguments, and tapes of any signs: nothing is thrown but what rests tells. */
public final class ExtremesTest {
    private static final int[] EDGES = {Integer.MIN_VALUE, Integer.MIN_VALUE + 1, -100, -2, -1, 0, 1, 2, 3, 4, 6, 7, 8, 9, 10, 12,
        13, 16, 30, 31, 32, 33, 39, 40, 41, 49, 64, 99, 100, 9999, 10000, Integer.MAX_VALUE - 1, Integer.MAX_VALUE};
    private static final String[] PIECES = {"person ", "a ", "b ", "c ", "plain ", "hot ", "age ", "envy ", "1", "9", ";", "(", ")",
        "not ", "+", "<", "=", "*", "-", "and ", "grows ", "eases ", "has ", "known ", "grudge ", "heir ", "bar ", "day", "tax", "die "};

    public static void main(String[] args) {
        Random random = new Random(7);
        for (int run = 0; run < 300; run++) {
            VoteAgainst x = new VoteAgainst();
            for (int call = 0; call < 400; call++) {
                call(x, random);
            }
        }
        deepTapes();
        sevenPeople();
        Check.due("nothing was thrown", true, true);
        Check.end();
    }

    private static int edge(Random random) {
        return EDGES[random.nextInt(EDGES.length)];
    }

    private static void call(VoteAgainst x, Random random) {
        int a = edge(random);
        int b = edge(random);
        int c = edge(random);
        switch (random.nextInt(31)) {
            case 0 -> x.feed(random.nextLong(), random.nextLong(), random.nextLong());
            case 1 -> Check.feed(x, pieces(random));
            case 2 -> x.republic();
            case 3 -> x.years();
            case 4 -> Check.republic(x, "person a hot age 1 envy 9;person b plain age 2 envy 1;person c saint age 3 envy 5;heir a b;bar 3;");
            case 5 -> x.person(a, b);
            case 6 -> x.grudge(a, b);
            case 7 -> x.against(a, b);
            case 8 -> x.governs();
            case 9 -> x.tax();
            case 10 -> x.gift(a, b);
            case 11 -> x.cast(a, b);
            case 12 -> x.die(a);
            case 13 -> x.day();
            case 14 -> x.undo();
            case 15 -> x.judged(a);
            case 16 -> x.next(a);
            case 17 -> x.bring(a);
            case 18 -> x.bears(a);
            case 19 -> x.falls();
            case 20 -> x.quiets();
            case 21 -> x.should(a);
            case 22 -> x.hear(a, random.nextBoolean());
            case 23 -> x.bars(a);
            case 24 -> x.ask();
            case 25 -> x.sets(a, b, c);
            case 26 -> x.ease();
            case 27 -> rests(x, a, b, c, edge(random));
            case 28 -> x.rule(a, b);
            case 29 -> x.ages(a, b, c);
            default -> {
                x.mark(a, random.nextBoolean());
                x.count(b);
            }
        }
    }

    /** All that can be asked of a full republic, each of whom has a grudge against the next one. */
    private static void sevenPeople() {
        StringBuilder text = new StringBuilder("bar 9;");
        for (char name = 'a'; name < 'h'; name++) {
            text.append("person ").append(name).append(" plain age 1 envy 1;");
        }
        for (char name = 'a'; name < 'g'; name++) {
            text.append("grudge ").append(name).append(' ').append((char) (name + 1)).append(" 9;");
        }
        VoteAgainst x = Check.told(text.append("grudge g a 9;").toString());
        int[] counts = {7, 9, 0, 0, 0, 127, 7, 63, 0, 0, 0, 0, 0};
        for (int what = 0; what < counts.length; what++) {
            Check.due("of seven count(" + what + ")", x.count(what), counts[what]);
        }
        Check.due("of seven governs()", x.governs(), 0);
        Check.due("of seven next(6)", x.next(6), 0);
        Check.due("of seven bring(6)", x.bring(6), 6);
        Check.due("of seven bears(0)", x.bears(0), 0);
        Check.due("of seven quiets()", x.quiets(), 7);
        Check.due("of seven should(0)", x.should(0), 1);
        Check.due("of seven should(1)", x.should(1), 0);
        Check.due("of seven sets(0, 1, 0)", x.sets(0, 1, 0), 31);
        Check.due("of seven sets(0, 1, 2)", x.sets(0, 1, 2), 124);
        Check.due("of seven ease()", x.ease(), 0);
        Check.due("of seven falls()", x.falls(), -1);
        Check.due("of seven rule(1, 9)", x.rule(1, 9), 7);
        Check.due("of seven tax()", x.tax(), 5);
        Check.due("of seven day()", x.day(), 7);
        Check.due("of seven governs()", x.governs(), 0);
        Check.due("of seven person(6, 5)", x.person(6, 5), 1);
        Check.due("of seven person(0, 4)", x.person(0, 4), 1);
    }

    private static void rests(VoteAgainst x, int a, int b, int c, int what) {
        try {
            x.rests(a, b, c, what);
        } catch (NoSuchElementException e) {
            // As the document tells.
        }
    }

    private static String pieces(Random random) {
        StringBuilder text = new StringBuilder();
        for (int i = 0; i < random.nextInt(60); i++) {
            text.append(PIECES[random.nextInt(PIECES.length)]);
        }
        return text.toString();
    }

    /** The fullest laws that a tape can tell. */
    private static void deepTapes() {
        String people = "person a plain age 9 envy 9;person b plain age 1 envy 1;";
        // An operator of each rank waits in each level; each bracket is worth 1.
        String level = "1 and 1<1+1*";
        String levels = level + "(" + level + "(" + level + "(" + level + "(" + level;
        VoteAgainst x = Check.told(people + "grows " + levels + "1))));");
        Check.due("tax()", x.tax(), 1);
        Check.due("grudge(1, 0)", x.grudge(1, 0), 1);
        StringBuilder ones = new StringBuilder(people).append("grows 0");
        while (ones.length() < 996) {
            ones.append("+1");
        }
        ones.append(';');
        VoteAgainst full = Check.told(ones.toString());
        Check.due("tax()", full.tax(), 1);
        Check.due("9 at most", full.grudge(1, 0), 9);
        String tooDeep = "grows " + levels + "not ";
        Check.due("too deep", Check.republic(x, tooDeep + "1))));"), Check.fault(5, tooDeep.length()));
        Check.due("a long row of brackets", Check.republic(x, "grows " + "(".repeat(994)), Check.fault(5, 11));
        Check.due("a long row of nots", Check.republic(x, "grows " + "not ".repeat(240)), Check.fault(5, 26));
        Check.due("a long row of digits", Check.republic(x, "bar " + "9".repeat(996)), Check.fault(1, 4));
        Check.due("a long row of letters", Check.republic(x, "a".repeat(1000)), Check.fault(1, 0));
    }
}
