/** The document's bounds of what is seen of people and in counts, sentence by sentence: promises 5 to 8 and 31. */
public final class PeopleBoundsTest {
    private static final String THREE = Check.people(3, "plain");
    private static final int[] WIDE = {-1, -2, -7, 3, 4, 7, 8, 31, 32, 33, 49, 64, Integer.MIN_VALUE, Integer.MAX_VALUE};

    public static void main(String[] args) {
        personOthers();
        personWithoutHeir();
        personDead();
        grudgeOthers();
        againstOthers();
        votesThatCount();
        fewest();
        equalOnes();
        firstOfEqualOnes();
        nobody();
        countOthers();
        counts();
        fullCounts();
        lastCall();
        Check.end();
    }

    private static void personOthers() {
        Check.says("7: 1 alive; -2: others.");
        VoteAgainst x = Check.told(THREE);
        for (int person : WIDE) {
            Check.due("person(" + person + ", 0)", x.person(person, 0), -2);
            Check.due("person(" + person + ", 7)", x.person(person, 7), -2);
        }
        for (int what : new int[] {-1, 8, 9, Integer.MIN_VALUE, Integer.MAX_VALUE}) {
            Check.due("person(0, " + what + ")", x.person(0, what), -2);
            Check.due("person(2, " + what + ")", x.person(2, what), -2);
        }
        Check.due("the last one is there", x.person(2, 7), 1);
        VoteAgainst seven = Check.told(Check.people(7, "plain"));
        Check.due("the last of seven", seven.person(6, 7), 1);
        Check.due("no eighth", seven.person(7, 7), -2);
        Check.due("of nobody", new VoteAgainst().person(0, 7), -2);
    }

    private static void personWithoutHeir() {
        Check.says("6: his heir (NONE: none)");
        VoteAgainst x = Check.told(THREE + "heir a c;heir c a;");
        Check.due("the last one", x.person(0, 6), 2);
        Check.due("none", x.person(1, 6), -1);
        Check.due("the first one", x.person(2, 6), 0);
        x.die(2);
        Check.due("he is told yet", x.person(0, 6), 2);
    }

    private static void personDead() {
        Check.says("3: votes that he has, 4: that count against him, 5: that he has cast");
        VoteAgainst x = Check.told(THREE + "heir a b;");
        x.cast(2, 0);
        x.die(0);
        int[] dead = {0, 9, 1, 0, 1, 0, 1, 0};
        for (int what = 0; what < 8; what++) {
            Check.due("person(0, " + what + ") of a dead one", x.person(0, what), dead[what]);
        }
        Check.due("votes that he has", x.person(1, 3), 2);
        x.cast(1, 2);
        x.cast(1, 2);
        Check.due("none left", x.person(1, 3), 0);
        Check.due("that he has cast", x.person(1, 5), 2);
        Check.due("that count", x.person(2, 4), 2);
    }

    private static void grudgeOthers() {
        Check.says("The grudge of a PERSON against another one; NONE: others, the same.");
        VoteAgainst x = Check.told(THREE + "grudge a b 9;grudge c a 8;");
        Check.due("grudge(0, 1)", x.grudge(0, 1), 9);
        Check.due("grudge(2, 0)", x.grudge(2, 0), 8);
        Check.due("grudge(1, 0)", x.grudge(1, 0), 0);
        for (int person = 0; person < 3; person++) {
            Check.due("the same " + person, x.grudge(person, person), -1);
            for (int other : WIDE) {
                Check.due("grudge(" + person + ", " + other + ")", x.grudge(person, other), -1);
                Check.due("grudge(" + other + ", " + person + ")", x.grudge(other, person), -1);
            }
        }
        Check.due("of nobody", new VoteAgainst().grudge(0, 1), -1);
    }

    private static void againstOthers() {
        Check.says("Votes that a PERSON has cast against another one; NONE: others, the same.");
        VoteAgainst x = Check.told(THREE);
        x.cast(0, 2);
        Check.due("against(0, 2)", x.against(0, 2), 1);
        Check.due("against(2, 0)", x.against(2, 0), 0);
        for (int person = 0; person < 3; person++) {
            Check.due("the same " + person, x.against(person, person), -1);
            for (int other : WIDE) {
                Check.due("against(" + person + ", " + other + ")", x.against(person, other), -1);
                Check.due("against(" + other + ", " + person + ")", x.against(other, person), -1);
            }
        }
        Check.due("of nobody", new VoteAgainst().against(0, 1), -1);
    }

    private static void votesThatCount() {
        Check.says("counts against whom it was cast, if whoever cast it is alive, or those of the dead stay.");
        for (String dead : new String[] {"", "dead stay;", "dead lapse;"}) {
            boolean lapse = dead.equals("dead lapse;");
            VoteAgainst x = Check.told(THREE + dead);
            x.cast(1, 0);
            Check.due("while he is alive" + dead, x.person(0, 4), 1);
            x.die(1);
            Check.due("behind his death " + dead, x.person(0, 4), lapse ? 0 : 1);
            Check.due("who governs " + dead, x.governs(), lapse ? 0 : 2);
            Check.due("it was cast " + dead, x.against(1, 0), 1);
            Check.due("all votes that were cast " + dead, x.count(8), 1);
            x.undo();
            Check.due("his death is undone " + dead, x.person(0, 4), 1);
        }
    }

    private static void fewest() {
        Check.says("Who is alive and has the fewest that count against him GOVERNS");
        VoteAgainst x = Check.told(THREE);
        Check.due("none has any: the oldest", x.governs(), 0);
        x.cast(2, 0);
        Check.due("one against a", x.governs(), 1);
        x.cast(0, 1);
        Check.due("c has none", x.governs(), 2);
        x.die(2);
        Check.due("c is dead", x.governs(), 0);
    }

    private static void equalOnes() {
        Check.says("of equal ones the oldest (or the youngest: ties)");
        String ages = "person a plain age 50 envy 1;person b plain age 0 envy 1;person c plain age 99 envy 1;";
        Check.due("the oldest", Check.told(ages).governs(), 2);
        Check.due("the oldest, told", Check.told(ages + "ties old;").governs(), 2);
        Check.due("the youngest", Check.told(ages + "ties young;").governs(), 1);
        Check.due("older by a year", Check.told("person a plain age 98 envy 1;person b plain age 99 envy 1;").governs(), 1);
        Check.due("younger by a year", Check.told("person a plain age 1 envy 1;person b plain age 0 envy 1;ties young;").governs(), 1);
    }

    private static void firstOfEqualOnes() {
        Check.says("of equal ones of these the first.");
        String alike = "person a plain age 5 envy 1;person b plain age 5 envy 1;person c plain age 5 envy 1;";
        for (String ties : new String[] {"ties old;", "ties young;"}) {
            VoteAgainst x = Check.told(alike + ties);
            Check.due("the first " + ties, x.governs(), 0);
            x.die(0);
            Check.due("the first alive " + ties, x.governs(), 1);
            x.cast(2, 1);
            Check.due("the last " + ties, x.governs(), 2);
        }
    }

    private static void nobody() {
        Check.says("Who GOVERNS; NONE: nobody.");
        Check.due("at first", new VoteAgainst().governs(), -1);
        VoteAgainst x = Check.told(Check.people(1, "hermit"));
        Check.due("one alone", x.governs(), 0);
        x.die(0);
        Check.due("he is dead", x.governs(), -1);
        Check.due("of no people told", Check.told("bar 1;").governs(), -1);
    }

    private static void countOthers() {
        Check.says("12: signs on the TAPE. NONE for another what.");
        VoteAgainst x = Check.told(THREE);
        Check.feed(x, "day");
        Check.due("count(12)", x.count(12), 3);
        for (int what : new int[] {-1, 13, 14, -2, Integer.MIN_VALUE, Integer.MAX_VALUE}) {
            Check.due("count(" + what + ")", x.count(what), -1);
        }
    }

    private static void counts() {
        Check.says("5: those alive, as bits, 6: votes that are not cast (of those alive), 7: all grudges of those alive against those alive, together, "
            + "8: votes that were cast");
        StringBuilder text = new StringBuilder(Check.people(7, "saint"));
        for (char name = 'a'; name < 'h'; name++) {
            text.append("grudge ").append(name).append(' ').append(name == 'a' ? 'g' : 'a').append(" 9;");
        }
        VoteAgainst x = Check.told(text.toString());
        due(x, "all", 127, 7, 63, 0);
        x.cast(6, 0);
        due(x, "one vote is cast", 127, 6, 63, 1);
        x.die(0);
        due(x, "a is dead", 126, 5, 0, 1);
        for (int person = 1; person < 6; person++) {
            x.die(person);
        }
        due(x, "g is left, without a vote", 64, 0, 0, 1);
        x.die(6);
        due(x, "nobody is left", 0, 0, 0, 1);
        x.day();
        Check.due("the day", x.count(4), 1);
        VoteAgainst votes = Check.told(Check.people(7, "plain"));
        for (int person = 0; person < 7; person++) {
            votes.cast(person, person == 0 ? 1 : 0);
            due(votes, "votes of 0 to " + person, 127, 6 - person, 0, person + 1);
        }
    }

    private static void due(VoteAgainst x, String when, int alive, int votes, int grudges, int casts) {
        Check.due(when + ": alive", x.count(5), alive);
        Check.due(when + ": votes", x.count(6), votes);
        Check.due(when + ": grudges", x.count(7), grudges);
        Check.due(when + ": casts", x.count(8), casts);
    }

    private static void fullCounts() {
        Check.says("9: lines of the YEARS, 10: QUIET, 11: what can be undone, 12: signs on the TAPE");
        VoteAgainst x = Check.told(Check.people(7, "plain"));
        Check.due("years", Check.years(x, "day;".repeat(40)), 0);
        for (int i = 0; i < 20; i++) {
            x.hear(5, true);
            x.day();
        }
        Check.feed(x, " ".repeat(1100));
        int[] full = {7, 7, 0, 0, 20, 127, 7, 0, 0, 40, 8, 16, 1000};
        for (int what = 0; what < full.length; what++) {
            Check.due("full count(" + what + ")", x.count(what), full[what]);
        }
        VoteAgainst empty = Check.told("");
        int[] none = {0, 7, 0, 0, 0, 0, 0, 0, 0, 0, 0, 0, 0};
        for (int what = 0; what < none.length; what++) {
            Check.due("empty count(" + what + ")", empty.count(what), none[what]);
        }
    }

    private static void lastCall() {
        Check.says("An object is used for at most 512 calls after it has been made");
        VoteAgainst x = new VoteAgainst();
        for (int day = 1; day <= 511; day++) {
            Check.due("day " + day, x.day(), 0);
        }
        Check.due("the 512th call", x.count(4), 511);
        VoteAgainst fed = new VoteAgainst();
        for (int call = 1; call <= 511; call++) {
            Check.due("feed " + call, fed.feed(' ', 0, 0), Math.min(1000, call));
        }
        Check.due("the 512th call", fed.count(12), 511);
    }
}
