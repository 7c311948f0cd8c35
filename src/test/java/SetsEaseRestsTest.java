import java.util.NoSuchElementException;

/** Promises 25 to 27: who cast, by who governs; pairs at ease; threats at rest. */
public final class SetsEaseRestsTest {
    private static final String FIVE = "person a plain age 50 envy 1;person b saint age 40 envy 1;person c plain age 30 envy 1;"
        + "person d hot age 20 envy 1;person e hermit age 10 envy 1;";
    private static final int NO_SUCH = -99;

    public static void main(String[] args) {
        sets();
        ease();
        rests();
        Check.end();
    }

    private static void due(VoteAgainst x, int against, int governor, int number, int all, int some) {
        String sets = "sets(" + against + ", " + governor + ", ";
        Check.due(sets + "0)", x.sets(against, governor, 0), number);
        Check.due(sets + "1)", x.sets(against, governor, 1), all);
        Check.due(sets + "2)", x.sets(against, governor, 2), some);
    }

    private static void sets() {
        VoteAgainst x = Check.told(FIVE + "heir e d;");
        due(x, 0, 1, 7, 0, 4 + 8 + 16);
        due(x, 0, 2, 0, -1, -1);
        due(x, 1, 0, 8, 0, 4 + 8 + 16);
        x.cast(2, 0);
        // Against a one vote: b governs; by one against b it is c.
        due(x, 1, 2, 7, 0, 1 + 8 + 16);
        x.undo();
        x.cast(2, 1);
        due(x, 0, 2, 7, 0, 2 + 8 + 16);
        x.undo();
        x.cast(0, 1);
        x.cast(1, 2);
        x.cast(2, 3);
        // Against them 0, 1, 1, 1, 0: e governs by one against a, whom d alone can cast.
        due(x, 0, 4, 1, 8, 8);
        due(x, 0, 1, 0, -1, -1);
        x.die(4);
        // d has two votes, yet casts one: then each has one, and the oldest governs.
        due(x, 0, 1, 0, -1, -1);
        due(x, 1, 0, 2, 0, 8);
        int[][] others = {{0, 0, 0}, {4, 0, 0}, {0, 4, 0}, {-1, 0, 0}, {0, -1, 0}, {5, 0, 0}, {0, 5, 0}, {1, 0, 3}, {1, 0, -1},
            {Integer.MIN_VALUE, Integer.MAX_VALUE, 0}, {40, 0, 0}, {0, 33, 0}};
        for (int[] other : others) {
            Check.due("sets(" + other[0] + ", " + other[1] + ", " + other[2] + ")", x.sets(other[0], other[1], other[2]), -1);
        }
        VoteAgainst two = Check.told("person a plain age 2 envy 1;person b plain age 1 envy 1;");
        due(two, 1, 0, 1, 0, 0);
        due(two, 0, 1, 0, -1, -1);
    }

    private static void ease() {
        VoteAgainst x = Check.told(FIVE + "grudge a b 1;grudge b a 9;grudge c d 3;grudge d c 2;grudge d e 2;grudge e a 9;");
        Check.due("two pairs", x.ease(), 2);
        x.cast(0, 1);
        Check.due("a has no votes", x.ease(), 1);
        x.die(3);
        Check.due("d is dead", x.ease(), 0);
        Check.due("the greatest one, the first", Check.told(FIVE + "grudge a b 3;grudge a c 3;grudge c a 3;").ease(), 0);
        Check.due("above 0", Check.told(FIVE).ease(), 0);
        Check.due("above 0, both", Check.told(FIVE + "grudge b a 4;").ease(), 0);
        VoteAgainst dead = Check.told(FIVE + "grudge a b 9;grudge a c 2;grudge c a 1;");
        Check.due("a's greatest one is another", dead.ease(), 0);
        dead.die(1);
        Check.due("of those alive", dead.ease(), 1);
        VoteAgainst second = Check.told(FIVE + "grudge b a 5;grudge b c 6;grudge a b 9;grudge c b 1;");
        Check.due("b and c", second.ease(), 1);
        second.cast(1, 2);
        Check.due("b has no votes", second.ease(), 0);
    }

    private static int answer(int keeps, int casts, int loses, int what) {
        try {
            return new VoteAgainst().rests(keeps, casts, loses, what);
        } catch (NoSuchElementException e) {
            return NO_SUCH;
        }
    }

    private static void due(int keeps, int casts, int loses, int... rests) {
        String call = "rests(" + keeps + ", " + casts + ", " + loses + ", ";
        Check.due(call + "-1)", answer(keeps, casts, loses, -1), rests.length);
        for (int what = 0; what < rests.length; what++) {
            Check.due(call + what + ")", answer(keeps, casts, loses, what), rests[what]);
        }
        Check.due(call + "none such", answer(keeps, casts, loses, rests.length), NO_SUCH);
        Check.due(call + "-2)", answer(keeps, casts, loses, -2), NO_SUCH);
    }

    private static void rests() {
        due(3, 5, 2, 1, 2, 3);
        due(5, 3, 2, 0, 3);
        due(4, 4, 9, 0, 1, 2, 3);
        due(0, 0, 0, 0, 1, 2, 3);
        due(9, 0, 0, 0, 3);
        due(0, 9, 9, 1, 2, 3);
        int[][] others = {{10, 0, 0}, {0, 10, 0}, {0, 0, 10}, {-1, 0, 0}, {0, -1, 0}, {0, 0, -1},
            {Integer.MAX_VALUE, 0, 0}, {0, Integer.MIN_VALUE, 0}};
        for (int[] other : others) {
            Check.due("rests of others", answer(other[0], other[1], other[2], -1), NO_SUCH);
            Check.due("rests of others", answer(other[0], other[1], other[2], 0), NO_SUCH);
        }
    }
}
