/** Promises 5 to 8 and 31: what is seen of people, grudges, votes, who governs, and counts. */
public final class PeopleTest {
    private static final String FOUR = "person a plain age 40 envy 2;person b saint age 50 envy 6;person c hot age 50 envy 9;"
        + "person d hermit age 0 envy 0;grudge a b 3;grudge b a 9;grudge d c 1;heir a d;heir d b;";

    public static void main(String[] args) {
        person();
        grudgeAndAgainst();
        governs();
        count();
        Check.end();
    }

    private static void row(VoteAgainst x, int person, int... want) {
        for (int what = 0; what < want.length; what++) {
            Check.due("person(" + person + ", " + what + ")", x.person(person, what), want[what]);
        }
    }

    private static void person() {
        VoteAgainst x = Check.told(FOUR);
        row(x, 0, 0, 40, 2, 1, 0, 0, 3, 1, -2);
        row(x, 1, 1, 50, 6, 1, 0, 0, -1, 1, -2);
        row(x, 2, 2, 50, 9, 1, 0, 0, -1, 1, -2);
        row(x, 3, 3, 0, 0, 1, 0, 0, 1, 1, -2);
        row(x, 4, -2, -2);
        row(x, -1, -2, -2);
        Check.due("person(0, -1)", x.person(0, -1), -2);
        Check.due("person of the greatest", x.person(Integer.MAX_VALUE, Integer.MIN_VALUE), -2);
        x.cast(0, 1);
        x.cast(1, 3);
        x.die(3);
        row(x, 0, 0, 40, 2, 0, 0, 1, 3, 1);
        row(x, 1, 1, 50, 6, 1, 1, 1, -1, 1);
        row(x, 3, 3, 0, 0, 0, 1, 0, 1, 0);
        x.die(0);
        row(x, 1, 1, 50, 6, 1, 1, 1, -1, 1);
        VoteAgainst lapse = Check.told(FOUR + "dead lapse;");
        lapse.cast(0, 1);
        lapse.cast(2, 1);
        Check.due("both count", lapse.person(1, 4), 2);
        lapse.die(0);
        Check.due("that of the dead one lapses", lapse.person(1, 4), 1);
        Check.due("yet he has cast it", lapse.person(0, 5), 1);
    }

    private static void grudgeAndAgainst() {
        VoteAgainst x = Check.told(FOUR);
        Check.due("grudge(0, 1)", x.grudge(0, 1), 3);
        Check.due("grudge(1, 0)", x.grudge(1, 0), 9);
        Check.due("grudge not told", x.grudge(0, 2), 0);
        Check.due("against(0, 1)", x.against(0, 1), 0);
        x.cast(0, 1);
        Check.due("against(0, 1)", x.against(0, 1), 1);
        Check.due("against(1, 0)", x.against(1, 0), 0);
        x.die(3);
        x.cast(1, 0);
        x.cast(1, 0);
        Check.due("two against one", x.against(1, 0), 2);
        x.die(1);
        Check.due("of a dead one", x.against(1, 0), 2);
        Check.due("grudge of a dead one", x.grudge(1, 0), 9);
        int[][] others = {{0, 0}, {-1, 0}, {0, -1}, {4, 0}, {0, 4}, {Integer.MIN_VALUE, 1}, {1, Integer.MAX_VALUE}};
        for (int[] pair : others) {
            Check.due("grudge(" + pair[0] + ", " + pair[1] + ")", x.grudge(pair[0], pair[1]), -1);
            Check.due("against(" + pair[0] + ", " + pair[1] + ")", x.against(pair[0], pair[1]), -1);
        }
    }

    private static void governs() {
        VoteAgainst old = Check.told(FOUR);
        Check.due("of equal ones the oldest, the first", old.governs(), 1);
        old.cast(0, 1);
        Check.due("the other oldest", old.governs(), 2);
        old.cast(1, 2);
        Check.due("the next oldest", old.governs(), 0);
        old.cast(2, 0);
        Check.due("with none", old.governs(), 3);
        old.cast(3, 0);
        Check.due("with none yet", old.governs(), 3);
        old.die(3);
        Check.due("of equal ones", old.governs(), 1);
        for (int person = 0; person < 3; person++) {
            old.die(person);
        }
        Check.due("nobody", old.governs(), -1);
        VoteAgainst late = Check.told("person a plain age 2 envy 1;person b plain age 3 envy 1;");
        Check.due("older by a year", late.governs(), 1);
        late.cast(1, 0);
        Check.due("cast by b", late.person(1, 5), 1);
        VoteAgainst young = Check.told("person a plain age 3 envy 1;person b plain age 2 envy 1;person c plain age 2 envy 1;ties young;");
        Check.due("of equal ones the youngest, the first", young.governs(), 1);
        young.cast(0, 1);
        Check.due("the other youngest", young.governs(), 2);
        young.cast(1, 2);
        Check.due("with none", young.governs(), 0);
        young.cast(2, 0);
        Check.due("of equal ones again", young.governs(), 1);
    }

    private static void count() {
        VoteAgainst x = Check.told(FOUR + "bar 2;dead lapse;ties young;");
        Check.feed(x, "day;day;");
        int[] first = {4, 2, 1, 1, 0, 15, 4, 13, 0, 0, 0, 0, 8, -1};
        for (int what = 0; what < first.length; what++) {
            Check.due("count(" + what + ")", x.count(what), first[what]);
        }
        Check.due("count(-1)", x.count(-1), -1);
        VoteAgainst plain = Check.told("dead stay;ties old;");
        Check.due("dead stay", plain.count(2), 0);
        Check.due("ties old", plain.count(3), 0);
        Check.due("years()", x.years(), 0);
        x.hear(0, false);
        Check.due("a casts against b", x.day(), 1);
        Check.due("the vote of b is lost", x.die(1), 0);
        int[] then = {4, 2, 1, 1, 1, 13, 2, 1, 1, 2, 1, 2, 0};
        for (int what = 0; what < then.length; what++) {
            Check.due("then count(" + what + ")", x.count(what), then[what]);
        }
    }
}
