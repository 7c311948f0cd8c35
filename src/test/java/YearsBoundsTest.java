/** The document's bounds of years and of how they are judged, sentence by sentence: promises 4 and 15. */
public final class YearsBoundsTest {
    private static final String TWO = Check.people(2, "plain");

    public static void main(String[] args) {
        anyNumber();
        fortyAtMost();
        peopleOfALine();
        likewise();
        lineLeftOut();
        dayAlwaysCan();
        firstThatCannotBe();
        firstThatTurns();
        atLast();
        fromTheBeginning();
        others();
        Check.end();
    }

    private static VoteAgainst told(String people, String years) {
        VoteAgainst x = Check.told(people);
        Check.due("years of " + years, Check.years(x, years), 0);
        return x;
    }

    private static void anyNumber() {
        Check.says("YEARS: any number of");
        VoteAgainst x = told(TWO, "tax;gift a b;cast b a;die a;day;");
        Check.due("five", x.count(9), 5);
        Check.due("none", x.years(), 0);
        Check.due("there are none then", x.count(9), 0);
        Check.due("blanks alone", Check.years(x, " \n "), 0);
        Check.due("none", x.count(9), 0);
        Check.wrongYears(1, TWO, "^;");
        Check.wrongYears(1, TWO, "day;^;");
        Check.wrongYears(1, TWO, "^bar 1;");
    }

    private static void fortyAtMost() {
        Check.says("40 lines at most.");
        Check.due("39", told(TWO, "day;".repeat(39)).count(9), 39);
        VoteAgainst x = told(TWO, "day;".repeat(39) + "die a;");
        Check.due("40", x.count(9), 40);
        Check.due("the last one is judged", x.judged(1), 39);
        Check.wrongYears(5, TWO, "day;".repeat(40) + "^day;");
        Check.wrongYears(5, TWO, "day;".repeat(40) + "^" + "day;".repeat(100));
        Check.due("40 again", Check.years(x, "tax;".repeat(40)), 0);
        Check.due("not together with the last ones", x.count(9), 40);
    }

    private static void peopleOfALine() {
        Check.says("(two PEOPLE, not the same; a PERSON)");
        Check.due("the first and the last of seven", told(Check.people(7, "plain"), "gift a g;cast g a;die g;").judged(0), -1);
        Check.wrongYears(2, TWO, "gift ^c a;");
        Check.wrongYears(2, TWO, "gift a ^c;");
        Check.wrongYears(3, TWO, "gift a ^a;");
        Check.wrongYears(2, TWO, "cast ^c a;");
        Check.wrongYears(2, TWO, "cast a ^c;");
        Check.wrongYears(3, TWO, "cast a ^a;");
        Check.wrongYears(2, TWO, "die ^c;");
        Check.wrongYears(1, TWO, "die ^;");
        Check.wrongYears(1, TWO, "die a ^b;");
        Check.wrongYears(1, TWO, "gift a ^;");
        Check.wrongYears(1, TWO, "tax ^a;");
        Check.wrongYears(1, TWO, "day ^1;");
        Check.wrongYears(2, "", "die ^a;");
    }

    private static void likewise() {
        Check.says("The TAPE is read as YEARS, likewise.");
        VoteAgainst x = told(TWO, "cast b a;day;");
        x.day();
        x.hear(4, false);
        x.mark(1, false);
        String before = Check.seen(x);
        Check.due("a fault at the end", Check.years(x, "die a;die b;die c;"), Check.fault(2, 16));
        Check.due("all stays", Check.seen(x).equals(before), true);
        Check.due("what can be undone", x.undo(), true);
        Check.due("the mark", x.mark(1, true), true);
        Check.due("years alone", Check.years(x, "day;day;day;"), 0);
        Check.due("are others", x.count(9), 3);
        Check.due("the rest stays", x.count(4) + x.count(10), 2);
    }

    private static void lineLeftOut() {
        Check.says("a line that can't be is left out");
        // The second death, the gifts of the dead and the second vote are left out; the vote against a makes b govern.
        VoteAgainst x = told(TWO + "person c plain age 1 envy 1;", "die c;die c;gift c a;gift a c;cast c a;cast a c;cast b a;cast b a;");
        Check.due("the first one", x.judged(0), 1);
        Check.due("the turn", x.judged(1), 6);
        Check.due("b", x.judged(2), 1);
        // The tax of a hermit is left out: else b would cast against him on the day.
        VoteAgainst hermit = told("person a hermit age 9 envy 1;person b plain age 8 envy 1;grudge b a 6;", "tax;day;");
        Check.due("the tax", hermit.judged(0), 0);
        Check.due("no turn", hermit.judged(1), -1);
        String plain = TWO + "grudge b a 6;";
        Check.due("a tax that can be", told(plain, "tax;day;").judged(1), 1);
        Check.due("a gift that can be", told(plain, "tax;gift a b;day;").judged(1), -1);
        Check.due("the other one's gift", told(plain, "tax;gift b a;day;").judged(1), 2);
        Check.due("the hermit", hermit.judged(2), 0);
    }

    private static void dayAlwaysCan() {
        Check.says("a day always can)");
        Check.due("of nobody", told("", "day;day;").judged(0), -1);
        Check.due("of the dead", told(TWO, "die a;die b;day;").judged(0), -1);
        Check.due("without votes", told(TWO, "cast a b;cast b a;day;day;").judged(0), -1);
        Check.due("a tax of nobody can't", told("", "day;tax;").judged(0), 1);
        Check.due("a tax of the dead can't", told(TWO, "die a;die b;day;tax;").judged(0), 3);
    }

    private static void firstThatCannotBe() {
        Check.says("the first line (from 0) that can't be");
        Check.due("none of none", told(TWO, "").judged(0), -1);
        Check.due("none", told(TWO, "tax;gift a b;cast a b;die a;day;").judged(0), -1);
        Check.due("the first", told("person a hermit age 1 envy 1;", "tax;tax;").judged(0), 0);
        Check.due("the second", told(TWO, "cast a b;cast a b;cast a b;").judged(0), 1);
        Check.due("the last of 40", told(TWO, "die a;" + "day;".repeat(38) + "die a;").judged(0), 39);
    }

    private static void firstThatTurns() {
        Check.says("the first one behind which somebody else GOVERNS than ahead of it (nobody, too)");
        Check.due("none of none", told(TWO, "").judged(1), -1);
        Check.due("the first", told(TWO, "cast b a;die b;").judged(1), 0);
        Check.due("the last of 40", told(TWO, "day;".repeat(39) + "cast b a;").judged(1), 39);
        Check.due("of one alone: nobody", told(Check.people(1, "plain"), "day;die a;day;").judged(1), 1);
        Check.due("the other one's death is no turn", told(TWO, "die b;day;").judged(1), -1);
        Check.due("both deaths: nobody", told(TWO, "die b;day;die a;").judged(1), 2);
        Check.due("of nobody none", told("", "day;tax;").judged(1), -1);
    }

    private static void atLast() {
        Check.says("JUDGED, what 0, 1: lines (NONE: none), 2: who GOVERNS (NONE: nobody)");
        Check.due("without years", told(TWO, "").judged(2), 0);
        Check.due("b", told(TWO, "cast b a;").judged(2), 1);
        Check.due("a again", told(TWO, "cast b a;cast a b;").judged(2), 0);
        Check.due("nobody", told(TWO, "die b;die a;").judged(2), -1);
        Check.due("nobody at first", new VoteAgainst().judged(2), -1);
    }

    private static void fromTheBeginning() {
        Check.says("JUDGED: the YEARS from the beginning");
        VoteAgainst x = told(TWO + "grudge b a 7;", "day;");
        String before = Check.seen(x);
        Check.due("b casts", x.judged(2), 1);
        Check.due("it is as ahead", Check.seen(x).equals(before), true);
        x.die(1);
        x.die(0);
        Check.due("none is dead at the beginning", x.judged(0), -1);
        Check.due("b casts yet", x.judged(2), 1);
    }

    private static void others() {
        Check.says("(NONE: nobody); -2: others.");
        VoteAgainst x = told(TWO, "cast b a;");
        for (int what : new int[] {-1, 3, 4, -2, Integer.MIN_VALUE, Integer.MAX_VALUE}) {
            Check.due("judged(" + what + ")", x.judged(what), -2);
        }
    }
}
