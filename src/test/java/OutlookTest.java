/** Promises 16 to 21: next, bring, bears, falls, quiets, should. */
public final class OutlookTest {
    private static final String FOUR = "person a plain age 40 envy 2;person b saint age 30 envy 6;person c hot age 20 envy 9;"
        + "person d hermit age 10 envy 0;";
    private static final int[] NO_PEOPLE = {-1, 4, 7, 99, Integer.MAX_VALUE, Integer.MIN_VALUE};

    public static void main(String[] args) {
        next();
        bring();
        bears();
        falls();
        quiets();
        should();
        Check.end();
    }

    private static void next() {
        VoteAgainst x = Check.told(FOUR + "grudge a b 7;grudge a c 8;grudge a d 8;grudge b a 9;grudge c a 5;grudge d a 6;");
        Check.due("the greatest, the first", x.next(0), 2);
        Check.due("no saint", x.next(1), -1);
        Check.due("hot", x.next(2), 0);
        Check.due("below the bar", x.next(3), -1);
        x.cast(0, 3);
        Check.due("no votes", x.next(0), -1);
        x.undo();
        x.die(2);
        Check.due("against whom alive", x.next(0), 3);
        Check.due("of a dead one", x.next(2), -1);
        for (int person : NO_PEOPLE) {
            Check.due("next(" + person + ")", x.next(person), -1);
        }
        Check.due("alone", Check.told("person a plain age 1 envy 1;bar 1;").next(0), -1);
    }

    private static void bring() {
        VoteAgainst x = Check.told(FOUR + "heir d c;heir b a;");
        int[] first = {0, 1, 2, 3};
        for (int person = 0; person < 4; person++) {
            Check.due("bring(" + person + ")", x.bring(person), first[person]);
        }
        x.cast(0, 1);
        Check.due("b needs four of two", x.bring(1), -1);
        Check.due("c needs one against a", x.bring(2), 1);
        Check.due("d needs two of three", x.bring(3), 2);
        x.cast(1, 2);
        Check.due("d needs one", x.bring(3), 1);
        x.cast(2, 3);
        // a has none against him, the others one, and d's vote is left; b needs two against a.
        Check.due("two of one", x.bring(1), -1);
        Check.due("three of one", x.bring(2), -1);
        Check.due("his own vote does not count", x.bring(3), -1);
        x.cast(3, 0);
        Check.due("a governs by his age", x.bring(0), 0);
        Check.due("one of none", x.bring(1), -1);
        for (int person : NO_PEOPLE) {
            Check.due("bring(" + person + ")", x.bring(person), -1);
        }
        // Of a and b alone: b would need a's own vote against a.
        VoteAgainst two = Check.told("person a plain age 2 envy 1;person b plain age 1 envy 1;");
        Check.due("none against himself", two.bring(1), -1);
        VoteAgainst heirs = Check.told("person a plain age 3 envy 1;person b plain age 2 envy 1;person c plain age 1 envy 1;"
            + "person d plain age 0 envy 1;heir d b;");
        heirs.die(3);
        heirs.cast(0, 2);
        // c has one; it needs two against a, which b has, and two against b, of which a has none left.
        Check.due("two that one has, two that nobody has", heirs.bring(2), -1);
        heirs.undo();
        heirs.cast(2, 1);
        Check.due("b needs two against a, of which c has none", heirs.bring(1), -1);
        Check.due("c needs one against a, none against b", heirs.bring(2), 1);
        heirs.die(2);
        heirs.die(0);
        Check.due("a dead one", heirs.bring(0), -1);
        Check.due("alone", heirs.bring(1), 0);
        VoteAgainst ages = Check.told("person a plain age 3 envy 1;person b plain age 3 envy 1;person c plain age 2 envy 1;ties young;");
        Check.due("the youngest", ages.bring(2), 0);
        Check.due("the first of equal ones", ages.bring(0), 1);
        Check.due("the second of them", ages.bring(1), 2);
    }

    private static void bears() {
        VoteAgainst x = Check.told(FOUR + "heir d c;");
        Check.due("bears(0)", x.bears(0), 0);
        Check.due("he does not govern", x.bears(1), -1);
        x.cast(0, 1);
        x.cast(1, 2);
        Check.due("d has none", x.bears(0), 0);
        x.die(3);
        Check.due("an older one", x.bears(0), 1);
        x.cast(2, 0);
        Check.due("bears(0)", x.bears(0), 0);
        x.cast(2, 0);
        Check.due("b governs", x.bears(1), 0);
        Check.due("a does not", x.bears(0), -1);
        x.die(2);
        Check.due("a has two, b one", x.bears(1), 0);
        x.die(0);
        Check.due("nobody else", x.bears(1), -1);
        for (int person : NO_PEOPLE) {
            Check.due("bears(" + person + ")", x.bears(person), -1);
        }
        Check.due("nobody governs", new VoteAgainst().bears(-1), -1);
        VoteAgainst young = Check.told("person a plain age 3 envy 1;person b plain age 2 envy 1;ties young;");
        young.cast(1, 0);
        Check.due("the younger one", young.bears(1), 1);
    }

    private static void falls() {
        // A tax each day: b's grudge 1, 2, .. till 7; then it is a's turn, whom b can't cast against any more.
        VoteAgainst x = Check.told("person a plain age 3 envy 1;person b plain age 2 envy 1;");
        Check.due("by taxes", x.falls(), 7);
        Check.due("it is as ahead", x.count(4), 0);
        x.day();
        x.tax();
        Check.due("one less", x.falls(), 6);
        x.cast(1, 0);
        Check.due("b falls by a", x.falls(), 7);
        x.cast(0, 1);
        Check.due("no votes", x.falls(), -1);
        Check.due("a hermit", Check.told("person a hermit age 3 envy 1;person b plain age 2 envy 1;").falls(), -1);
        Check.due("a hermit, by a grudge", Check.told("person a hermit age 3 envy 1;person b plain age 2 envy 1;grudge b a 7;").falls(), 1);
        Check.due("nobody", new VoteAgainst().falls(), -1);
        Check.due("never", Check.told("person a plain age 3 envy 1;person b plain age 2 envy 1;grows 0;").falls(), -1);
        Check.due("alone", Check.told("person a plain age 3 envy 1;").falls(), -1);
        VoteAgainst lead = Check.told("person a plain age 3 envy 1;person b plain age 2 envy 1;person c plain age 1 envy 9;"
            + "grudge a b 9;grudge b c 9;");
        // Day 1: a against b, b against c. c's grudge is 2, 4, 6, 8: on day 4 a has one, as the others have, and governs.
        Check.due("he bears it", lead.falls(), -1);
    }

    private static void quiets() {
        VoteAgainst x = Check.told(FOUR + "grudge a b 7;grudge a c 9;grudge a d 6;grudge b a 9;grudge c a 5;grudge c b 4;grudge d a 8;");
        // a: 1 + 2 gifts, b is a saint, c is hot: 1, d: 1.
        Check.due("quiets()", x.quiets(), 5);
        Check.due("it is as ahead", x.grudge(0, 1), 7);
        x.cast(0, 1);
        Check.due("a has no votes", x.quiets(), 2);
        x.die(0);
        Check.due("a is dead", x.quiets(), 0);
        Check.due("of ease 1", Check.told(FOUR + "grudge a b 9;grudge c d 9;eases 1;").quiets(), 8);
        Check.due("of no ease", Check.told(FOUR + "grudge a b 7;eases 0;").quiets(), -1);
        Check.due("of no ease, quiet", Check.told(FOUR + "grudge a b 6;grudge b a 9;eases 0;").quiets(), 0);
        Check.due("not any more", Check.told(FOUR + "grudge a b 9;eases has=9;").quiets(), -1);
        Check.due("just enough", Check.told(FOUR + "grudge a b 9;eases 7<has;").quiets(), -1);
        Check.due("just enough", Check.told(FOUR + "grudge a b 9;eases 6<has;").quiets(), 3);
        Check.due("hot, 1 at least", Check.told(FOUR + "bar 1;grudge c b 3;").quiets(), 2);
    }

    private static void should() {
        VoteAgainst x = Check.told(FOUR);
        Check.due("who governs, against the first", x.should(0), 1);
        Check.due("b against a", x.should(1), 0);
        Check.due("c can't", x.should(2), -1);
        x.cast(0, 1);
        Check.due("c against a", x.should(2), 0);
        Check.due("no votes", x.should(0), -1);
        Check.due("b, with one, against nobody", x.should(1), -1);
        x.die(0);
        Check.due("the first one alive", x.should(2), 1);
        Check.due("a dead one", x.should(0), -1);
        for (int person : NO_PEOPLE) {
            Check.due("should(" + person + ")", x.should(person), -1);
        }
        Check.due("alone", Check.told("person a plain age 1 envy 1;").should(0), -1);
    }
}
