/** Promises 9 to 14: taxes, gifts, votes, deaths, days by hand, and undone. */
public final class DeedsTest {
    private static final String THREE = "person a plain age 30 envy 4;person b hot age 20 envy 5;person c plain age 10 envy 9;";

    public static void main(String[] args) {
        tax();
        laws();
        gift();
        cast();
        die();
        day();
        undo();
        Check.end();
    }

    private static void tax() {
        VoteAgainst x = Check.told(THREE + "grudge c a 8;");
        Check.due("tax()", x.tax(), 2);
        Check.due("2, of envy above 4", x.grudge(1, 0), 2);
        Check.due("9 at most", x.grudge(2, 0), 9);
        Check.due("none of his own", x.grudge(0, 1), 0);
        Check.due("only b's grows", x.tax(), 1);
        x.cast(1, 0);
        Check.due("b governs", x.governs(), 1);
        x.tax();
        Check.due("1, of envy 4", x.grudge(0, 1), 1);
        x.die(2);
        Check.due("none of a dead one", x.tax(), 1);
        Check.due("grudge of the dead one", x.grudge(2, 1), 2);
        x.die(0);
        Check.due("nobody else", x.tax(), 0);
        Check.due("it was", x.count(11), 8);
        x.die(1);
        Check.due("nobody governs", x.tax(), -1);
        VoteAgainst hermit = Check.told("person a hermit age 3 envy 1;person b plain age 2 envy 1;");
        Check.due("a hermit governs", hermit.tax(), -1);
        Check.due("nothing can be undone", hermit.count(11), 0);
        hermit.cast(1, 0);
        Check.due("no hermit governs", hermit.tax(), 1);
        Check.due("a hermit's grudge", hermit.grudge(0, 1), 1);
    }

    /** The grudge of b against a, first 2, after a tax by this law: a is known by one vote yet governs. */
    private static void grown(String law, int want) {
        VoteAgainst x = Check.told("person a plain age 30 envy 4;person b hot age 20 envy 5;grudge b a 2;grows " + law + ";");
        x.cast(1, 0);
        x.cast(0, 1);
        Check.due("tax by " + law, x.tax(), want > 2 ? 1 : 0);
        Check.due("grudge by " + law, x.grudge(1, 0), want);
    }

    /** The grudge of a against b, first 9, after a gift of b by this law: b is known by one vote. */
    private static void eased(String law, int want) {
        VoteAgainst x = Check.told("person a plain age 30 envy 4;person b hot age 20 envy 5;grudge a b 9;eases " + law + ";");
        x.cast(0, 1);
        Check.due("gift by " + law, x.gift(1, 0), want);
    }

    private static void laws() {
        grown("0", 2);
        grown("3", 5);
        grown("7", 9);
        grown("9999", 9);
        grown("0-5", 2);
        grown("has", 4);
        grown("jealous", 7);
        grown("years-17", 5);
        grown("known*3", 5);
        grown("1+2*3", 9);
        grown("7-2-3", 4);
        grown("(1+1)*2", 6);
        grown("not 0+not 5", 3);
        grown("not not 7", 3);
        grown("not 7", 2);
        grown("not 0*3", 5);
        grown("2<3", 3);
        grown("3<3", 2);
        grown("3=1+2", 3);
        grown("3=2", 2);
        grown("7 and 8", 3);
        grown("7 and 0", 2);
        grown("0 or 7", 3);
        grown("0 or 0", 2);
        grown("1 or 1 and 0", 2);
        grown("0 and 0 or 1", 3);
        grown("2 and 2<3 or 0", 3);
        grown("3*(4<jealous)+(0<known)", 6);
        // Ints wrap: 8192 * 8192 * 64 is 2^32, 8192 * 8192 * 32 is -2^31.
        grown("8192*8192*64+3", 5);
        grown("8192*8192*32<0", 3);
        grown("8192*8192*32", 2);
        grown("8192*8192*32-1", 9);
        grown("0<8192*8192*32-1", 3);
        eased("0", 9);
        eased("3", 6);
        eased("9999", 0);
        eased("0-1", 9);
        eased("has-5", 5);
        eased("jealous", 5);
        eased("years-25", 4);
        eased("known", 8);
        bothLaws("grows 1;eases 3;");
        bothLaws("eases 3;grows 1;");
        lawsOfTheLast();
    }

    private static void bothLaws(String laws) {
        VoteAgainst x = Check.told(THREE + laws + "grudge b a 4;");
        x.tax();
        Check.due("grows of " + laws, x.grudge(1, 0), 5);
        Check.due("eases of " + laws, x.gift(0, 1), 2);
    }

    private static void lawsOfTheLast() {
        VoteAgainst x = Check.told(THREE + "grows 5+has;eases 5*known;");
        Check.due("a fault within brackets", Check.republic(x, "grows 1;eases 1 + not (2 * not (3"), Check.fault(1, 33));
        x.tax();
        Check.due("the laws stay", x.grudge(1, 0), 5);
        Check.due("another one", Check.republic(x, THREE + "eases 4;grudge b a 4;"), 0);
        x.tax();
        Check.due("it has no law of how they grow", x.grudge(1, 0), 6);
        Check.due("it has one of how they are eased", x.gift(0, 1), 2);
        Check.due("a third one", Check.republic(x, THREE + "grows (3);grudge b a 4;"), 0);
        x.tax();
        Check.due("grows", x.grudge(1, 0), 7);
        Check.due("no law of ease", x.gift(0, 1), 5);
        Check.due("both, the second one behind", Check.republic(x, THREE + "eases 3;grows 1;"), 0);
        Check.due("the second one alone", Check.republic(x, THREE + "grows 5;"), 0);
        x.tax();
        Check.due("grows 5", x.grudge(1, 0), 5);
        Check.due("a fault behind an operator", Check.republic(x, "grows 1 * ;"), Check.fault(1, 10));
        Check.due("a law behind it", Check.republic(x, THREE + "grows 3;"), 0);
        x.tax();
        Check.due("grows 3", x.grudge(1, 0), 3);
        for (int i = 0; i < 4; i++) {
            Check.due("a long one", Check.republic(x, THREE + "grows 0" + "+1".repeat(i + 300) + "-" + (i + 298) + ";"), 0);
            x.tax();
            Check.due("grows 2", x.grudge(1, 0), 2);
        }
    }

    private static void gift() {
        VoteAgainst x = Check.told(THREE + "grudge b a 5;grudge a b 7;");
        Check.due("gift(0, 1)", x.gift(0, 1), 3);
        Check.due("b's grudge is less", x.grudge(1, 0), 3);
        Check.due("a's is not", x.grudge(0, 1), 7);
        Check.due("gift(0, 1)", x.gift(0, 1), 1);
        Check.due("0 at least", x.gift(0, 1), 0);
        Check.due("0 yet", x.gift(0, 1), 0);
        Check.due("it was", x.count(11), 4);
        int[][] others = {{0, 0}, {-1, 0}, {0, -1}, {3, 0}, {0, 3}, {Integer.MAX_VALUE, Integer.MIN_VALUE}};
        for (int[] pair : others) {
            Check.due("gift(" + pair[0] + ", " + pair[1] + ")", x.gift(pair[0], pair[1]), -1);
            Check.due("cast(" + pair[0] + ", " + pair[1] + ")", x.cast(pair[0], pair[1]), -1);
        }
        x.die(1);
        Check.due("to a dead one", x.gift(0, 1), -1);
        Check.due("of a dead one", x.gift(1, 0), -1);
        Check.due("nothing more can be undone", x.count(11), 5);
    }

    private static void cast() {
        VoteAgainst x = Check.told(THREE + "heir b a;");
        Check.due("cast(0, 1)", x.cast(0, 1), 1);
        Check.due("once", x.cast(0, 1), -1);
        Check.due("cast(2, 1)", x.cast(2, 1), 2);
        x.die(2);
        Check.due("against a dead one", x.cast(1, 2), -1);
        Check.due("die(1)", x.die(1), 1);
        Check.due("against a dead one, with a vote", x.cast(0, 1), -1);
        Check.due("of a dead one", x.cast(1, 0), -1);
        Check.due("four were", x.count(11), 4);
        VoteAgainst saint = Check.told("person a saint age 1 envy 1;person b plain age 1 envy 1;");
        Check.due("a saint's by hand", saint.cast(0, 1), 1);
    }

    private static void die() {
        VoteAgainst x = Check.told(THREE + "heir a b;heir b c;heir c b;");
        Check.due("die(0)", x.die(0), 1);
        Check.due("votes of b", x.person(1, 3), 2);
        Check.due("votes of a", x.person(0, 3), 0);
        Check.due("die(0) again", x.die(0), -1);
        Check.due("die(1)", x.die(1), 2);
        Check.due("votes of c", x.person(2, 3), 3);
        Check.due("his heir is dead", x.die(2), 0);
        Check.due("no votes", x.count(6), 0);
        for (int person : new int[] {-1, 3, Integer.MAX_VALUE, Integer.MIN_VALUE}) {
            Check.due("die(" + person + ")", x.die(person), -1);
        }
        Check.due("three died", x.count(11), 3);
        VoteAgainst lost = Check.told(THREE);
        Check.due("no heir", lost.die(0), 0);
        Check.due("they are lost", lost.count(6), 2);
    }

    private static void day() {
        VoteAgainst x = Check.told(THREE + "person d saint age 5 envy 1;bar 6;grudge a b 6;grudge a c 6;grudge b c 4;grudge c a 5;grudge d a 9;");
        Check.due("day()", x.day(), 2);
        Check.due("of equal ones the first", x.against(0, 1), 1);
        Check.due("his grudge is 0 then", x.grudge(0, 1), 0);
        Check.due("the other one stays", x.grudge(0, 2), 6);
        Check.due("of a hot one two less", x.against(1, 2), 1);
        Check.due("5 is less than 6", x.against(2, 0), 0);
        Check.due("no saint", x.against(3, 0), 0);
        Check.due("the next day", x.count(4), 1);
        Check.due("no votes any more", x.day(), 0);
        Check.due("the day behind it", x.count(4), 2);
        VoteAgainst low = Check.told(THREE + "bar 2;grudge b a 1;grudge a b 1;");
        Check.due("hot, 1 at least", low.day(), 1);
        Check.due("against(1, 0)", low.against(1, 0), 1);
        VoteAgainst least = Check.told(THREE + "bar 1;");
        Check.due("of 0 nobody casts", least.day(), 0);
        VoteAgainst dead = Check.told(THREE + "bar 5;grudge a b 9;grudge a c 5;heir b a;");
        dead.die(1);
        Check.due("against whom alive", dead.day(), 1);
        Check.due("against(0, 2)", dead.against(0, 2), 1);
        Check.due("one vote of two", dead.person(0, 3), 1);
    }

    private static void undo() {
        VoteAgainst x = Check.told(THREE + "heir a b;grudge a c 9;");
        x.tax();
        x.gift(0, 1);
        x.cast(2, 0);
        x.die(0);
        x.day();
        x.hear(3, true);
        Check.due("count(11)", x.count(11), 5);
        Check.due("undo of a day", x.undo(), true);
        Check.due("day 0", x.count(4), 0);
        Check.due("undo of a death", x.undo(), true);
        Check.due("all alive", x.count(5), 7);
        Check.due("votes of b", x.person(1, 3), 1);
        Check.due("votes of a", x.person(0, 3), 1);
        Check.due("undo of a vote", x.undo(), true);
        Check.due("votes of c", x.person(2, 3), 1);
        Check.due("against(2, 0)", x.against(2, 0), 0);
        Check.due("grudge(1, 0)", x.grudge(1, 0), 0);
        Check.due("undo of a gift", x.undo(), true);
        Check.due("grudge(1, 0)", x.grudge(1, 0), 2);
        Check.due("undo of a tax", x.undo(), true);
        Check.due("grudge(1, 0)", x.grudge(1, 0), 0);
        Check.due("nothing", x.undo(), false);
        Check.due("what is quiet stays", x.count(10), 1);
        for (int day = 0; day < 20; day++) {
            x.day();
        }
        Check.due("the last 16", x.count(11), 16);
        for (int i = 19; i >= 4; i--) {
            Check.due("undo of 16", x.undo(), true);
            Check.due("day " + i, x.count(4), i);
        }
        Check.due("no more", x.undo(), false);
        Check.due("day 4", x.count(4), 4);
    }
}
