/** The document's bounds of what would be, sentence by sentence: promises 16 to 21. */
public final class OutlookBoundsTest {
    private static final String TWO = Check.people(2, "plain");
    private static final String THREE = Check.people(3, "plain");
    private static final int[] NOBODY = {-1, 3, 6, 7, 8, 32, 33, 64, Integer.MIN_VALUE, Integer.MAX_VALUE};

    public static void main(String[] args) {
        nextBar();
        nextNone();
        bringFewest();
        bringOfThoseTheyHave();
        bringNotAgainstHimself();
        bringNone();
        bearsHowMany();
        bearsNone();
        fallsFromOneDay();
        fallsAtLast();
        fallsWithoutTax();
        fallsNone();
        quietsNoLessThanTheBar();
        quietsAsManyAsItTakes();
        quietsWho();
        quietsNone();
        shouldFirst();
        shouldNone();
        allFromNow();
        Check.end();
    }

    private static void nextBar() {
        Check.says("NEXT: whom one would cast against, were it his turn now on a DAY.");
        for (int bar = 1; bar <= 9; bar++) {
            for (int grudge = 0; grudge <= 9; grudge++) {
                String rest = "person b saint age 8 envy 1;grudge a b " + grudge + ";grudge b a 9;bar " + bar + ";";
                String of = "of bar " + bar + ", grudge " + grudge;
                Check.due("plain " + of, Check.told(Check.people(1, "plain") + rest).next(0), grudge >= bar ? 1 : -1);
                Check.due("hot " + of, Check.told(Check.people(1, "hot") + rest).next(0), grudge >= Math.max(1, bar - 2) ? 1 : -1);
                Check.due("saint " + of, Check.told(Check.people(1, "plain") + rest).next(1), -1);
            }
        }
    }

    private static void nextNone() {
        Check.says("NEXT; NONE: others, against nobody.");
        VoteAgainst x = Check.told(THREE + "grudge a b 9;grudge a c 9;grudge b a 6;grudge c a 9;");
        Check.due("of equal ones the first", x.next(0), 1);
        Check.due("below the bar", x.next(1), -1);
        Check.due("the last one", x.next(2), 0);
        for (int nobody : NOBODY) {
            Check.due("next(" + nobody + ")", x.next(nobody), -1);
        }
        x.cast(2, 1);
        Check.due("no votes", x.next(2), -1);
        x.die(1);
        Check.due("against another one alive", x.next(0), 2);
        Check.due("a dead one", x.next(1), -1);
        x.die(2);
        Check.due("nobody else is alive", x.next(0), -1);
        Check.due("at first", new VoteAgainst().next(0), -1);
    }

    private static void bringFewest() {
        Check.says("BRING: the fewest votes by which one alive would GOVERN");
        VoteAgainst x = Check.told(Check.people(7, "plain"));
        for (int person = 0; person < 7; person++) {
            Check.due("bring(" + person + ") of seven", x.bring(person), person);
        }
        VoteAgainst young = Check.told(Check.people(7, "plain") + "ties young;");
        for (int person = 0; person < 7; person++) {
            Check.due("bring(" + person + ") of seven, young", young.bring(person), 6 - person);
        }
        VoteAgainst alone = Check.told(Check.people(1, "plain"));
        Check.due("one alone", alone.bring(0), 0);
        alone.die(0);
        Check.due("nobody", alone.bring(0), -1);
    }

    private static void bringOfThoseTheyHave() {
        Check.says("if others alive cast them at once, of those that they have");
        VoteAgainst x = Check.told(THREE);
        Check.due("c needs both", x.bring(2), 2);
        x.cast(0, 2);
        // c has one: two against a, two against b are needed, and b's vote alone is left.
        Check.due("four of one", x.bring(2), -1);
        Check.due("b needs one", x.bring(1), 1);
        x.cast(2, 1);
        // Against them 0, 1, 1; b has a vote: c needs two against a, and one against b.
        Check.due("three of one", x.bring(2), -1);
        Check.due("b's own does not count", x.bring(1), -1);
        VoteAgainst left = Check.told(Check.people(4, "plain") + "heir a b;heir d b;");
        left.cast(2, 1);
        left.die(0);
        left.die(3);
        // b and c are left, one vote against b, who has three.
        Check.due("c governs", left.bring(2), 0);
        Check.due("his own do not bring b in", left.bring(1), -1);
    }

    private static void bringNotAgainstHimself() {
        Check.says("none against himself or him.");
        VoteAgainst two = Check.told(TWO);
        Check.due("a's own vote is not cast against a", two.bring(1), -1);
        VoteAgainst three = Check.told(THREE);
        // b needs one against a: c's; not by a's own.
        Check.due("c's vote", three.bring(1), 1);
        three.cast(2, 1);
        Check.due("two against a, of a's own one", three.bring(1), -1);
        // a needs two against b, of whom b has both votes.
        VoteAgainst heir = Check.told(THREE + "heir c b;ties young;");
        heir.die(2);
        Check.due("b governs", heir.governs(), 1);
        Check.due("of b's own two", heir.bring(0), -1);
        // Two need votes: each can cast against the other one.
        Check.due("each against the other one", Check.told(THREE).bring(2), 2);
    }

    private static void bringNone() {
        Check.says("BRING; NONE: others, not alive, it can't be.");
        VoteAgainst x = Check.told(THREE);
        for (int nobody : NOBODY) {
            Check.due("bring(" + nobody + ")", x.bring(nobody), -1);
        }
        x.die(0);
        Check.due("not alive", x.bring(0), -1);
        Check.due("b governs", x.bring(1), 0);
        Check.due("it can't be", x.bring(2), -1);
        Check.due("at first", new VoteAgainst().bring(0), -1);
    }

    private static void bearsHowMany() {
        Check.says("BEARS: how many more votes could count against him so that he who GOVERNS does so yet.");
        VoteAgainst x = Check.told(Check.people(7, "plain"));
        for (int person = 2; person < 7; person++) {
            x.cast(person, 1);
        }
        for (int person = 2; person < 7; person++) {
            x.die(person);
        }
        Check.due("five against b, and a wins of equal ones", x.bears(0), 5);
        x.cast(1, 0);
        Check.due("one against a", x.bears(0), 4);
        VoteAgainst young = Check.told(Check.people(7, "plain") + "ties young;");
        for (int person = 2; person < 7; person++) {
            young.cast(person, 1);
        }
        for (int person = 2; person < 7; person++) {
            young.die(person);
        }
        Check.due("five against b, and b wins of equal ones", young.bears(0), 4);
        Check.due("none", Check.told(THREE).bears(0), 0);
        VoteAgainst three = Check.told(Check.people(5, "plain"));
        three.cast(3, 1);
        three.cast(4, 1);
        three.die(3);
        three.die(4);
        Check.due("two against b, none against c", three.bears(0), 0);
        three.cast(1, 2);
        Check.due("two against b, one against c", three.bears(0), 1);
        three.cast(0, 2);
        Check.due("two against each", three.bears(0), 2);
        Check.due("none, of an older one", Check.told("person a plain age 1 envy 1;person b plain age 9 envy 1;").bears(1), 0);
    }

    private static void bearsNone() {
        Check.says("BEARS; NONE: others, he does not GOVERN, nobody else is alive.");
        VoteAgainst x = Check.told(THREE);
        for (int nobody : NOBODY) {
            Check.due("bears(" + nobody + ")", x.bears(nobody), -1);
        }
        Check.due("b does not govern", x.bears(1), -1);
        Check.due("c does not govern", x.bears(2), -1);
        x.die(0);
        Check.due("a is dead", x.bears(0), -1);
        Check.due("b governs", x.bears(1), 0);
        x.die(2);
        Check.due("nobody else is alive", x.bears(1), -1);
        x.die(1);
        Check.due("nobody is alive", x.bears(1), -1);
        Check.due("nobody governs, of NONE", x.bears(-1), -1);
        Check.due("at first, of NONE", new VoteAgainst().bears(-1), -1);
    }

    private static void fallsFromOneDay() {
        Check.says("FALLS: in how many DAYS (1 to 40)");
        Check.due("by a grudge that is there", Check.told(TWO + "grudge b a 9;").falls(), 1);
        Check.due("by the first tax", Check.told(TWO + "grudge b a 6;").falls(), 1);
        Check.due("by the second tax", Check.told(TWO + "grudge b a 5;").falls(), 2);
        for (int bar = 1; bar <= 9; bar++) {
            Check.due("of bar " + bar, Check.told(TWO + "bar " + bar + ";").falls(), bar);
        }
    }

    /** Two of seven are left: b, with so many votes and three against him, and a, who governs without any against him. */
    private static VoteAgainst longReign(int votes, String laws) {
        StringBuilder text = new StringBuilder(Check.people(7, "plain")).append("bar 9;").append(laws);
        for (int heir = 0; heir < votes - 1; heir++) {
            text.append("heir ").append((char) ('c' + heir)).append(" b;");
        }
        VoteAgainst x = Check.told(text.toString());
        x.cast(0, 1);
        x.cast(5, 1);
        x.cast(6, 1);
        for (int person = 2; person < 7; person++) {
            x.die(person);
        }
        Check.due("votes of b", x.person(1, 3), votes);
        Check.due("votes against b", x.person(1, 4), 3);
        Check.due("alive", x.count(5), 3);
        Check.due("a governs", x.governs(), 0);
        return x;
    }

    private static void fallsAtLast() {
        Check.says("ahead of each a TAX, if it can be, somebody else GOVERNS than now");
        // b casts on the days 9, 18, 27, 36: by four votes a has more than b. No republic takes longer.
        Check.due("by four votes", longReign(4, "").falls(), 36);
        Check.due("a bears three votes", longReign(3, "").falls(), -1);
        Check.due("from a grudge of 6", longReign(4, "grudge b a 6;").falls(), 30);
        Check.due("of two a day", longReign(4, "grows 2;").falls(), 20);
        Check.due("from a grudge of 9", longReign(4, "grudge b a 9;grows 9;").falls(), 4);
    }

    private static void fallsWithoutTax() {
        Check.says("ahead of each a TAX, if it can be");
        String hermit = "person a hermit age 9 envy 1;person b plain age 8 envy 1;";
        Check.due("none of a hermit", Check.told(hermit + "grudge b a 6;").falls(), -1);
        Check.due("a grudge is enough", Check.told(hermit + "grudge b a 7;").falls(), 1);
    }

    private static void fallsNone() {
        Check.says("FALLS; NONE: nobody GOVERNS, not within 40.");
        Check.due("nobody at first", new VoteAgainst().falls(), -1);
        VoteAgainst x = Check.told(Check.people(1, "plain"));
        Check.due("one alone", x.falls(), -1);
        x.die(0);
        Check.due("nobody is alive", x.falls(), -1);
        Check.due("never", Check.told(TWO + "grows 0;").falls(), -1);
        Check.due("of saints", Check.told(Check.people(7, "saint")).falls(), -1);
        VoteAgainst spent = Check.told(TWO + "grudge b a 9;");
        spent.cast(1, 0);
        spent.cast(0, 1);
        Check.due("no votes", spent.falls(), -1);
    }

    private static void quietsNoLessThanTheBar() {
        Check.says("is no less than the bar (of a hot one as told)");
        for (int bar = 1; bar <= 9; bar++) {
            for (int grudge = 0; grudge <= 9; grudge++) {
                String rest = "person b plain age 8 envy 1;eases 1;grudge a b " + grudge + ";bar " + bar + ";";
                String of = "of bar " + bar + ", grudge " + grudge;
                int hotBar = Math.max(1, bar - 2);
                Check.due("plain " + of, Check.told(Check.people(1, "plain") + rest).quiets(), Math.max(0, grudge - bar + 1));
                Check.due("hot " + of, Check.told(Check.people(1, "hot") + rest).quiets(), Math.max(0, grudge - hotBar + 1));
            }
        }
    }

    private static void quietsAsManyAsItTakes() {
        Check.says("as many as it takes till it is less: together.");
        Check.due("none", Check.told(THREE).quiets(), 0);
        Check.due("one of 2", Check.told(THREE + "grudge a b 8;").quiets(), 1);
        Check.due("two of 2", Check.told(THREE + "grudge a b 9;").quiets(), 2);
        Check.due("nine of 1", Check.told(THREE + "grudge a b 9;bar 1;eases 1;").quiets(), 9);
        Check.due("one of 9", Check.told(THREE + "grudge a b 9;bar 1;eases 9;").quiets(), 1);
        // Not the greatest one alone.
        Check.due("against two", Check.told(THREE + "grudge a b 9;grudge a c 7;").quiets(), 3);
        StringBuilder all = new StringBuilder(Check.people(6, "plain")).append("bar 1;eases 1;");
        for (char one = 'a'; one < 'g'; one++) {
            for (char other = 'a'; other < 'g'; other++) {
                all.append(one == other ? "" : "grudge " + one + " " + other + " 9;");
            }
        }
        VoteAgainst x = Check.told(all.toString());
        Check.due("nine of each of thirty", x.quiets(), 270);
    }

    private static void quietsWho() {
        Check.says("QUIETS: the GIFTS by which nobody would cast on a DAY: of each one alive against whom the grudge of somebody who has votes, "
            + "and is no saint");
        Check.due("at first", new VoteAgainst().quiets(), 0);
        Check.due("of a saint", Check.told(Check.people(2, "saint") + "grudge a b 9;").quiets(), 0);
        VoteAgainst x = Check.told(THREE + "grudge a b 9;grudge a c 9;grudge b a 8;grudge c a 8;");
        Check.due("all", x.quiets(), 6);
        x.cast(2, 1);
        Check.due("without votes", x.quiets(), 5);
        x.die(1);
        Check.due("of one alive", x.quiets(), 2);
        x.die(2);
        Check.due("nobody else is alive", x.quiets(), 0);
    }

    private static void quietsNone() {
        Check.says("QUIETS; NONE: a GIFT does not ease one of them any more.");
        Check.due("by 0", Check.told(TWO + "grudge a b 7;eases 0;").quiets(), -1);
        Check.due("by less than 0", Check.told(TWO + "grudge a b 7;eases 0-1;").quiets(), -1);
        Check.due("by 0, below the bar", Check.told(TWO + "grudge a b 6;eases 0;").quiets(), 0);
        Check.due("by 0 at 8", Check.told(TWO + "grudge a b 9;eases 8<has;").quiets(), -1);
        Check.due("by 0 at 7", Check.told(TWO + "grudge a b 9;eases 7<has;").quiets(), -1);
        Check.due("by 0 at 6", Check.told(TWO + "grudge a b 9;eases 6<has;").quiets(), 3);
        Check.due("one is eased, one is not", Check.told(THREE + "grudge a b 8;grudge b a 9;eases has=8;").quiets(), -1);
        Check.due("of a saint it is no matter", Check.told(Check.people(2, "saint") + "grudge a b 9;eases 0;").quiets(), 0);
    }

    private static void shouldFirst() {
        Check.says("AGAINST: the first one alive against whom one alive, who has votes, should cast one so that he himself GOVERNS then.");
        VoteAgainst x = Check.told(THREE);
        Check.due("a governs anyway: the first of the others", x.should(0), 1);
        Check.due("b against a", x.should(1), 0);
        Check.due("c by no one vote", x.should(2), -1);
        x.cast(1, 0);
        Check.due("c against b", x.should(2), 1);
        x.undo();
        x.die(1);
        Check.due("the first one alive", x.should(0), 2);
        Check.due("c against a", x.should(2), 0);
        VoteAgainst equal = Check.told("person a plain age 5 envy 1;person b plain age 5 envy 1;");
        Check.due("of equal ones the first", equal.should(1), 0);
    }

    private static void shouldNone() {
        Check.says("AGAINST; NONE: others, not alive, no votes, none.");
        VoteAgainst x = Check.told(THREE);
        for (int nobody : NOBODY) {
            Check.due("should(" + nobody + ")", x.should(nobody), -1);
        }
        Check.due("none", x.should(2), -1);
        x.cast(1, 2);
        Check.due("no votes", x.should(1), -1);
        x.die(0);
        Check.due("not alive", x.should(0), -1);
        x.die(2);
        Check.due("no votes, alone", x.should(1), -1);
        Check.due("alone", Check.told(Check.people(1, "plain")).should(0), -1);
        Check.due("at first", new VoteAgainst().should(0), -1);
    }

    private static void allFromNow() {
        Check.says("(All from how it is now.)");
        for (int call = 0; call < 6; call++) {
            VoteAgainst x = Check.told(THREE + "grudge a b 9;grudge b a 8;grudge c a 7;heir c a;");
            x.day();
            x.die(2);
            x.tax();
            String before = Check.seen(x);
            switch (call) {
                case 0 -> x.next(0);
                case 1 -> x.bring(1);
                case 2 -> x.bears(1);
                case 3 -> x.falls();
                case 4 -> x.quiets();
                default -> x.should(0);
            }
            Check.due("all is as ahead of call " + call, Check.seen(x).equals(before), true);
        }
        VoteAgainst x = Check.told(TWO + "grudge b a 4;");
        Check.due("falls", x.falls(), 3);
        x.tax();
        Check.due("one less", x.falls(), 2);
        x.undo();
        Check.due("as ahead", x.falls(), 3);
    }
}
