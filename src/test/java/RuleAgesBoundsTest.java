import java.math.BigInteger;

/** The document's bounds of rule and ages, sentence by sentence: promises 28 and 29. */
public final class RuleAgesBoundsTest {
    private static final String TWO = Check.people(2, "plain");

    public static void main(String[] args) {
        ruleDays();
        ruleBar();
        ruleOthers();
        ruleNobody();
        agesSeeds();
        agesDays();
        agesOthers();
        agesOfNobody();
        agesDraws();
        agesGiftsThatCannotBe();
        agesOfOneDay();
        agesNobodyGoverns();
        agesAliveAtLast();
        allIsAsAhead();
        Check.end();
    }

    /** Two are left: b, with four votes and three against him, and a, who governs: b casts on the days 3, 12, 21, 30 by a bar of 9. */
    private static VoteAgainst longReign() {
        VoteAgainst x = Check.told(Check.people(7, "plain") + "heir c b;heir d b;heir e b;grudge b a 6;");
        x.cast(0, 1);
        x.cast(5, 1);
        x.cast(6, 1);
        for (int person = 2; person < 7; person++) {
            x.die(person);
        }
        return x;
    }

    private static void ruleDays() {
        Check.says("RULE: votes cast in so many DAYS (1 to 30), ahead of each a TAX, if it can be");
        VoteAgainst x = longReign();
        for (int days = 1; days <= 30; days++) {
            Check.due(days + " days", x.rule(days, 9), (days + 6) / 9);
        }
        Check.due("0 days", x.rule(0, 9), -1);
        Check.due("31 days", x.rule(31, 9), -1);
    }

    private static void ruleBar() {
        Check.says("by another bar (1 to 9)");
        for (int bar = 1; bar <= 9; bar++) {
            for (int grudge = 0; grudge <= 9; grudge++) {
                // a hermit governs, so there is no tax.
                String rest = " age 1 envy 1;grudge b a " + grudge + ";bar 5;";
                String of = "of bar " + bar + ", grudge " + grudge;
                Check.due("plain " + of, Check.told(Check.people(1, "hermit") + "person b plain" + rest).rule(1, bar), grudge >= bar ? 1 : 0);
                Check.due("hot " + of, Check.told(Check.people(1, "hermit") + "person b hot" + rest).rule(1, bar),
                    grudge >= Math.max(1, bar - 2) ? 1 : 0);
            }
        }
        VoteAgainst x = Check.told(TWO + "bar 3;");
        Check.due("bar 0", x.rule(1, 0), -1);
        Check.due("bar 10", x.rule(1, 10), -1);
        x.rule(30, 9);
        Check.due("the bar stays", x.count(1), 3);
    }

    private static void ruleOthers() {
        Check.says("RULE; NONE: others.");
        VoteAgainst x = Check.told(TWO);
        int[][] others = {{0, 5}, {31, 5}, {5, 0}, {5, 10}, {-1, 5}, {5, -1}, {Integer.MIN_VALUE, 5}, {Integer.MAX_VALUE, 5},
            {5, Integer.MIN_VALUE}, {5, Integer.MAX_VALUE}, {0, 0}, {31, 10}};
        for (int[] other : others) {
            Check.due("rule(" + other[0] + ", " + other[1] + ")", x.rule(other[0], other[1]), -1);
        }
        Check.due("rule(1, 1)", x.rule(1, 1), 1);
        Check.due("rule(30, 9)", x.rule(30, 9), 2);
    }

    private static void ruleNobody() {
        Check.says("ahead of each a TAX, if it can be, by another bar");
        Check.due("nobody", new VoteAgainst().rule(30, 1), 0);
        Check.due("one alone", Check.told(Check.people(1, "hot")).rule(30, 1), 0);
        Check.due("of a hermit", Check.told(Check.people(2, "hermit")).rule(30, 1), 0);
        VoteAgainst x = Check.told(TWO + "grudge b a 9;");
        x.die(0);
        Check.due("against a dead one", x.rule(30, 1), 0);
    }

    private static void agesSeeds() {
        Check.says("AGES by a SEED (0 to 9999)");
        VoteAgainst x = Check.told(TWO);
        for (int what = 0; what < 3; what++) {
            Check.due("seed 0", x.ages(0, 1, what) >= 0, true);
            Check.due("seed 9999", x.ages(9999, 1, what) >= 0, true);
            Check.due("seed -1", x.ages(-1, 1, what), -1);
            Check.due("seed 10000", x.ages(10000, 1, what), -1);
            Check.due("the least seed", x.ages(Integer.MIN_VALUE, 1, what), -1);
            Check.due("the greatest seed", x.ages(Integer.MAX_VALUE, 1, what), -1);
        }
    }

    private static void agesDays() {
        Check.says("AGES by a SEED of so many days (1 to 99)");
        VoteAgainst x = Check.told(TWO);
        for (int what = 0; what < 3; what++) {
            Check.due("1 day", x.ages(5, 1, what) >= 0, true);
            Check.due("99 days", x.ages(5, 99, what) >= 0, true);
            Check.due("0 days", x.ages(5, 0, what), -1);
            Check.due("100 days", x.ages(5, 100, what), -1);
            Check.due("-1 days", x.ages(5, -1, what), -1);
            Check.due("the most days", x.ages(5, Integer.MAX_VALUE, what), -1);
        }
    }

    private static void agesOthers() {
        Check.says("2: alive; NONE: others.");
        VoteAgainst x = Check.told(TWO);
        for (int what : new int[] {-1, 3, 4, Integer.MIN_VALUE, Integer.MAX_VALUE}) {
            Check.due("what " + what, x.ages(5, 5, what), -1);
        }
    }

    private static void agesOfNobody() {
        Check.says("each: if there are PEOPLE, a DRAW below these, another one: that GIFT, if it can be");
        for (int what = 0; what < 3; what++) {
            Check.due("at first", new VoteAgainst().ages(9999, 99, what), 0);
        }
        VoteAgainst dead = Check.told(TWO);
        dead.die(0);
        dead.die(1);
        for (int what = 0; what < 3; what++) {
            Check.due("of the dead", dead.ages(9999, 99, what), 0);
        }
    }

    /** By great numbers, which can't wrap. */
    private static BigInteger drawn(BigInteger g) {
        return g.multiply(BigInteger.valueOf(1103515245)).add(BigInteger.valueOf(12345)).mod(BigInteger.valueOf(2147483648L));
    }

    /** Of one alone there are two draws below 1, one below 2, one below 20 each day, till he dies. */
    private static int dayOfDeath(int seed) {
        BigInteger g = BigInteger.valueOf(seed);
        for (int day = 1; day <= 99; day++) {
            g = drawn(drawn(drawn(drawn(g))));
            if (g.divide(BigInteger.valueOf(65536)).intValue() % 20 == 0) {
                return day;
            }
        }
        return 100;
    }

    private static void agesDraws() {
        Check.says("g becomes (g * 1103515245 + 12345) modulo 2147483648 (g is the SEED at first); it is g / 65536, cut, modulo m.");
        int last = 0;
        int never = 0;
        for (int seed = 0; seed <= 9999; seed++) {
            VoteAgainst x = Check.told(Check.people(1, "plain"));
            int day = dayOfDeath(seed);
            if (day > 1) {
                Check.due("alive, seed " + seed + ", days " + (day - 1), x.ages(seed, day - 1, 2), 1);
            }
            if (day <= 99) {
                Check.due("dead, seed " + seed + ", days " + day, x.ages(seed, day, 2), 0);
                Check.due("nobody governs then, once, seed " + seed, x.ages(seed, 99, 1), 1);
            }
            last += day == 99 ? 1 : 0;
            never += day == 100 ? 1 : 0;
        }
        Check.due("some die on the last day, some never", last > 0 && never > 0, true);
    }

    private static void agesGiftsThatCannotBe() {
        Check.says("that GIFT, if it can be; a DRAW below 2: 0: TAX, if it can be; a DRAW below 20: 0: the first DRAW's one DIES, if alive; then the DAY");
        // b, the last one alive, has a grudge of 9 against a hermit who is dead: nobody casts, whatever is drawn.
        for (int seed = 0; seed < 100; seed++) {
            VoteAgainst x = Check.told("person a hermit age 9 envy 1;person b plain age 8 envy 1;grudge b a 9;");
            x.die(0);
            Check.due("votes, seed " + seed, x.ages(seed, 99, 0), 0);
            int alive = x.ages(seed, 99, 2);
            Check.due("a stays dead, seed " + seed, alive == 0 || alive == 2, true);
            Check.due("nobody governs, if b dies, seed " + seed, x.ages(seed, 99, 1), alive == 0 ? 1 : 0);
            // The tax of a hermit can't be: on one day nobody's grudge grows to 7.
            VoteAgainst hermit = Check.told("person a hermit age 9 envy 1;person b plain age 8 envy 1;grudge b a 6;");
            Check.due("no tax, seed " + seed, hermit.ages(seed, 1, 0), 0);
        }
    }

    /** A day of a, who governs, and b, whose grudge of 6 a tax makes 7, and a gift of a's 4 ahead of it. */
    private static void agesOfOneDay() {
        Check.says("a DRAW below these, another one: that GIFT, if it can be; a DRAW below 2: 0: TAX, if it can be");
        int votes = 0;
        for (int seed = 0; seed < 300; seed++) {
            int giver = draw(seed, 1) % 2;
            boolean isGift = giver == 0 && draw(seed, 2) % 2 == 1;
            boolean isTax = draw(seed, 3) % 2 == 0;
            boolean isDeath = draw(seed, 4) % 20 == 0;
            int want = isTax && !isGift && !isDeath ? 1 : 0;
            VoteAgainst x = Check.told(TWO + "grudge b a 6;");
            Check.due("votes, seed " + seed, x.ages(seed, 1, 0), want);
            Check.due("turns, seed " + seed, x.ages(seed, 1, 1), want == 1 || isDeath && giver == 0 ? 1 : 0);
            Check.due("alive, seed " + seed, x.ages(seed, 1, 2), isDeath ? 2 - giver : 3);
            votes += want;
        }
        Check.due("there were votes", votes > 0, true);
    }

    private static int draw(int seed, int number) {
        BigInteger g = BigInteger.valueOf(seed);
        for (int draw = 0; draw < number; draw++) {
            g = drawn(g);
        }
        return g.divide(BigInteger.valueOf(65536)).intValue();
    }

    private static void agesNobodyGoverns() {
        Check.says("how often somebody else (nobody, too) GOVERNS behind a day than ahead of all of it");
        // Of saints nobody casts: he who governs changes by deaths alone, and there are two of those at most.
        int both = 0;
        for (int seed = 0; seed < 200; seed++) {
            VoteAgainst x = Check.told(Check.people(2, "saint"));
            int alive = x.ages(seed, 99, 2);
            int turns = x.ages(seed, 99, 1);
            boolean isTwice = alive == 0 && turns == 2;
            boolean isOnce = turns == 1 && (alive == 0 || alive == 2);
            boolean isNever = turns == 0 && (alive & 1) == 1;
            Check.due("turns of seed " + seed, isTwice || isOnce || isNever, true);
            both += isTwice ? 1 : 0;
        }
        Check.due("a dies, then b", both > 0, true);
    }

    private static void agesAliveAtLast() {
        Check.says("who are alive at last, as bits.");
        // Of seven saints: each draw of 0 below 20 is the death of the first draw's one.
        for (int seed = 0; seed < 100; seed++) {
            VoteAgainst x = Check.told(Check.people(7, "saint"));
            int alive = 127;
            for (int day = 1; day <= 99; day++) {
                if (draw(seed, 4 * day) % 20 == 0) {
                    alive &= ~(1 << draw(seed, 4 * day - 3) % 7);
                }
            }
            Check.due("alive of seven, seed " + seed, x.ages(seed, 99, 2), alive);
            Check.due("they all live now", x.count(5), 127);
        }
    }

    private static void allIsAsAhead() {
        Check.says("from now on (all is as ahead then)");
        for (int what = 0; what < 4; what++) {
            VoteAgainst x = Check.told(TWO + "person c hot age 1 envy 9;grudge c a 4;grudge b a 3;heir b c;");
            x.tax();
            x.day();
            String before = Check.seen(x);
            int answer = what < 3 ? x.ages(77, 99, what) : x.rule(30, 3);
            Check.due("it is answered", answer >= 0, true);
            Check.due("all is as ahead of call " + what, Check.seen(x).equals(before), true);
            Check.due("the same again", what < 3 ? x.ages(77, 99, what) : x.rule(30, 3), answer);
        }
    }
}
