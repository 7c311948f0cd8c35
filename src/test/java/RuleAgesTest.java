/** Promises 28 and 29: bars compared, years by draws. */
public final class RuleAgesTest {
    private static final String TWO = "person a plain age 3 envy 1;person b plain age 2 envy 1;";

    public static void main(String[] args) {
        rule();
        agesByHand();
        agesOthers();
        Check.end();
    }

    private static void rule() {
        VoteAgainst x = Check.told(TWO + "grudge a b 4;");
        Check.due("b's grudge is 1", x.rule(1, 5), 0);
        Check.due("a casts", x.rule(1, 4), 1);
        Check.due("both cast", x.rule(1, 1), 2);
        // Day 5: b casts against a, and then governs; a's grudge of 4 is 5 by the tax of day 6.
        Check.due("five days", x.rule(5, 5), 1);
        Check.due("six days", x.rule(6, 5), 2);
        Check.due("30 days", x.rule(30, 9), 2);
        Check.due("it is as ahead", x.count(4) + x.count(8) + x.grudge(1, 0), 0);
        Check.due("the bar stays", x.count(1), 7);
        int[][] others = {{0, 5}, {31, 5}, {1, 0}, {1, 10}, {-1, 5}, {Integer.MAX_VALUE, Integer.MIN_VALUE}};
        for (int[] other : others) {
            Check.due("rule(" + other[0] + ", " + other[1] + ")", x.rule(other[0], other[1]), -1);
        }
        VoteAgainst hermit = Check.told("person a hermit age 3 envy 1;person b hot age 2 envy 1;grudge b a 3;");
        Check.due("no tax; of a hot one two less", hermit.rule(1, 5), 1);
        Check.due("no tax", hermit.rule(30, 6), 0);
        Check.due("nobody", new VoteAgainst().rule(30, 1), 0);
    }

    /** The draws of some days, by the formula, so that a day can be followed by hand. */
    private static int[] draws(long seed, int... bounds) {
        int[] drawn = new int[bounds.length];
        long g = seed;
        for (int i = 0; i < bounds.length; i++) {
            g = (g * 1103515245L + 12345L) % 2147483648L;
            drawn[i] = (int) (g / 65536 % bounds[i]);
        }
        return drawn;
    }

    /** A day of two, of whom b's grudge of 6 is against a, who governs: a tax makes it 7, a gift of a's 4, the death of a nothing. */
    private static void agesByHand() {
        int casts = 0;
        int deaths = 0;
        for (int seed = 0; seed < 400; seed++) {
            VoteAgainst x = Check.told(TWO + "grudge b a 6;");
            int[] drawn = draws(seed, 2, 2, 2, 20);
            boolean isGift = drawn[0] == 0 && drawn[1] == 1;
            boolean isTax = drawn[2] == 0;
            boolean dies = drawn[3] == 0;
            int alive = dies ? drawn[0] == 0 ? 2 : 1 : 3;
            int votes = isTax && !isGift && !dies ? 1 : 0;
            int turns = votes == 1 || alive == 2 ? 1 : 0;
            Check.due("ages(" + seed + ", 1, 0)", x.ages(seed, 1, 0), votes);
            Check.due("ages(" + seed + ", 1, 1)", x.ages(seed, 1, 1), turns);
            Check.due("ages(" + seed + ", 1, 2)", x.ages(seed, 1, 2), alive);
            Check.due("it is as ahead", x.count(5) + x.count(4) + x.grudge(1, 0), 9);
            casts += votes;
            deaths += dies ? 1 : 0;
        }
        Check.due("there were all of these", casts > 20 && deaths > 5, true);
        // The first draw of seed 0 is 12345 / 65536 = 0; g is 12345 then.
        Check.due("the formula", draws(0, 32768)[0], 0);
        Check.due("the formula", draws(1, 32768)[0], (int) (1103527590L / 65536));
    }

    private static void agesOthers() {
        VoteAgainst x = Check.told(TWO);
        int[][] others = {{-1, 1, 0}, {10000, 1, 0}, {0, 0, 0}, {0, 100, 0}, {0, 1, 3}, {0, 1, -1},
            {Integer.MIN_VALUE, 1, 0}, {0, Integer.MAX_VALUE, 0}};
        for (int[] other : others) {
            Check.due("ages(" + other[0] + ", " + other[1] + ", " + other[2] + ")", x.ages(other[0], other[1], other[2]), -1);
        }
        Check.due("ages(9999, 99, 2)", x.ages(9999, 99, 2) >= 0, true);
        for (int what = 0; what < 3; what++) {
            Check.due("of nobody", new VoteAgainst().ages(9999, 99, what), 0);
        }
        VoteAgainst one = Check.told("person a plain age 1 envy 1;");
        Check.due("one dies at last: nobody governs", one.ages(7, 99, 1), one.ages(7, 99, 2) == 0 ? 1 : 0);
        Check.due("and is dead", one.ages(7, 99, 2), 0);
    }
}
