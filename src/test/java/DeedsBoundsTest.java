/** The document's bounds of what is done by hand and undone, sentence by sentence: promises 9 to 14. */
public final class DeedsBoundsTest {
    private static final String THREE = Check.people(3, "plain");
    private static final int[] NOBODY = {-1, 3, 6, 7, 8, 32, 33, 64, Integer.MIN_VALUE, Integer.MAX_VALUE};

    public static void main(String[] args) {
        taxOfNobody();
        taxOfAHermit();
        taxOfThoseAlive();
        howManyGrew();
        giftOfTwoAlive();
        giftOthers();
        castOfOneWhoHasVotes();
        castOthers();
        dieVotesToTheHeir();
        dieVotesLost();
        dieOthers();
        dayBar();
        dayWho();
        dayGreatest();
        dayGrudgeIsZeroThen();
        dayNext();
        undoTheLastSixteen();
        undoOneByOne();
        undoNothing();
        refusedDeedsChangeNothing();
        Check.end();
    }

    private static void taxOfNobody() {
        Check.says("TAX, if somebody GOVERNS");
        VoteAgainst x = new VoteAgainst();
        Check.due("nobody at first", x.tax(), -1);
        Check.due("it was not", x.count(11), 0);
        VoteAgainst one = Check.told(Check.people(1, "plain"));
        Check.due("one alone", one.tax(), 0);
        Check.due("it was", one.count(11), 1);
        one.die(0);
        Check.due("nobody is alive", one.tax(), -1);
        Check.due("a tax and a death", one.count(11), 2);
    }

    private static void taxOfAHermit() {
        Check.says("and is no hermit");
        VoteAgainst x = Check.told("person a hermit age 9 envy 1;person b saint age 8 envy 1;person c hot age 7 envy 1;");
        Check.due("a hermit governs", x.tax(), -1);
        Check.due("no grudge grew", x.count(7), 0);
        Check.due("nothing can be undone", x.count(11), 0);
        x.cast(2, 0);
        Check.due("a saint governs", x.tax(), 2);
        Check.due("a hermit's grudge grows", x.grudge(0, 1), 1);
        x.cast(0, 1);
        Check.due("a hot one governs", x.tax(), 2);
        Check.due("a saint's grudge grows", x.grudge(1, 2), 1);
    }

    private static void taxOfThoseAlive() {
        Check.says("the grudge of each other one alive against him is more");
        VoteAgainst x = Check.told(THREE);
        x.die(1);
        Check.due("one", x.tax(), 1);
        Check.due("of the dead one", x.grudge(1, 0), 0);
        Check.due("of the other one", x.grudge(2, 0), 1);
        Check.due("his own", x.grudge(0, 2), 0);
        x.die(2);
        Check.due("none", x.tax(), 0);
        Check.due("of both dead ones", x.grudge(1, 0) + x.grudge(2, 0), 1);
    }

    private static void howManyGrew() {
        Check.says("TAX: how many grudges grew; NONE: it can't be.");
        VoteAgainst x = Check.told(THREE + "grudge b a 8;grudge c a 9;");
        Check.due("b's, to 9", x.tax(), 1);
        Check.due("none, of 9", x.tax(), 0);
        Check.due("both were", x.count(11), 2);
        Check.due("of 0", Check.told(THREE + "grows 0;").tax(), 0);
        Check.due("of less than 0", Check.told(THREE + "grows 0-1;grudge b a 3;").tax(), 0);
        Check.due("of six", Check.told(Check.people(7, "plain")).tax(), 6);
    }

    private static void giftOfTwoAlive() {
        Check.says("GIFT of one alive to another one alive");
        VoteAgainst x = Check.told(THREE + "grudge b a 9;grudge a b 9;");
        Check.due("the same", x.gift(0, 0), -1);
        Check.due("it was not", x.count(11), 0);
        Check.due("a's to b", x.gift(0, 1), 7);
        x.die(1);
        Check.due("to a dead one", x.gift(0, 1), -1);
        Check.due("of a dead one", x.gift(1, 0), -1);
        Check.due("his grudge stays", x.grudge(1, 0), 7);
        Check.due("against him, too", x.grudge(0, 1), 9);
        Check.due("a gift and a death", x.count(11), 2);
        Check.due("of no grudge", x.gift(0, 2), 0);
        Check.due("it was", x.count(11), 3);
    }

    private static void giftOthers() {
        Check.says("GIFT: the grudge then; NONE: others, it can't be.");
        VoteAgainst x = Check.told(THREE);
        for (int nobody : NOBODY) {
            Check.due("gift(" + nobody + ", 0)", x.gift(nobody, 0), -1);
            Check.due("gift(0, " + nobody + ")", x.gift(0, nobody), -1);
            Check.due("gift(" + nobody + ", " + nobody + ")", x.gift(nobody, nobody), -1);
        }
        Check.due("none was", x.count(11), 0);
        Check.due("the last one's", x.gift(2, 0), 0);
    }

    private static void castOfOneWhoHasVotes() {
        Check.says("CAST: one alive who has votes casts one against another one alive.");
        VoteAgainst x = Check.told(THREE + "heir c a;grudge a b 5;");
        Check.due("against himself", x.cast(0, 0), -1);
        Check.due("the first one", x.cast(0, 1), 1);
        Check.due("his grudge stays by hand", x.grudge(0, 1), 5);
        Check.due("no more", x.cast(0, 1), -1);
        Check.due("against another one", x.cast(0, 2), -1);
        x.die(2);
        Check.due("the one left to him", x.cast(0, 1), 2);
        Check.due("no more", x.cast(0, 1), -1);
        Check.due("of a dead one", x.cast(2, 0), -1);
        Check.due("against a dead one", x.cast(1, 2), -1);
        Check.due("his vote stays", x.person(1, 3), 1);
        Check.due("two votes and a death", x.count(11), 3);
        Check.due("a saint's", Check.told(Check.people(2, "saint")).cast(0, 1), 1);
    }

    private static void castOthers() {
        Check.says("CAST: votes that count against the other one then; NONE: others, it can't be.");
        VoteAgainst x = Check.told(THREE + "dead lapse;");
        for (int nobody : NOBODY) {
            Check.due("cast(" + nobody + ", 0)", x.cast(nobody, 0), -1);
            Check.due("cast(0, " + nobody + ")", x.cast(0, nobody), -1);
            Check.due("cast(" + nobody + ", " + nobody + ")", x.cast(nobody, nobody), -1);
        }
        Check.due("all votes are there", x.count(6), 3);
        Check.due("the last one's", x.cast(2, 0), 1);
        x.die(2);
        Check.due("of two one counts", x.cast(1, 0), 1);
        VoteAgainst most = Check.told(Check.people(7, "plain"));
        for (int person = 1; person < 7; person++) {
            Check.due("vote " + person, most.cast(person, 0), person);
        }
    }

    private static void dieVotesToTheHeir() {
        Check.says("votes that he has not cast go to his heir, if that one is alive");
        StringBuilder text = new StringBuilder(Check.people(7, "plain"));
        for (char name = 'a'; name < 'g'; name++) {
            text.append("heir ").append(name).append(' ').append((char) (name + 1)).append(';');
        }
        VoteAgainst x = Check.told(text.toString());
        for (int person = 0; person < 6; person++) {
            Check.due("die(" + person + ")", x.die(person), person + 1);
        }
        Check.due("all seven", x.person(6, 3), 7);
        Check.due("he has no heir", x.die(6), 0);
        VoteAgainst cast = Check.told(THREE + "heir a b;");
        cast.cast(0, 1);
        Check.due("what he has cast does not go", cast.die(0), 0);
        Check.due("votes of b", cast.person(1, 3), 1);
    }

    private static void dieVotesLost() {
        Check.says("else they are lost.");
        VoteAgainst x = Check.told(THREE + "heir a b;heir b a;");
        Check.due("no heir", x.die(2), 0);
        Check.due("two are left", x.count(6), 2);
        Check.due("to b", x.die(0), 1);
        Check.due("his heir is dead", x.die(1), 0);
        Check.due("none is left", x.count(6), 0);
        for (int person = 0; person < 3; person++) {
            Check.due("votes of " + person, x.person(person, 3), 0);
        }
    }

    private static void dieOthers() {
        Check.says("DIE: votes that went to his heir; NONE: others, he is not alive.");
        VoteAgainst x = Check.told(THREE + "heir a b;");
        for (int nobody : NOBODY) {
            Check.due("die(" + nobody + ")", x.die(nobody), -1);
        }
        Check.due("all live", x.count(5), 7);
        Check.due("none of his own", x.cast(0, 1), 1);
        Check.due("0, no NONE", x.die(0), 0);
        Check.due("again", x.die(0), -1);
        Check.due("a vote and a death", x.count(11), 2);
    }

    private static void dayBar() {
        Check.says("if that is no less than the bar (of a hot one two less, 1 at least)");
        for (int bar = 1; bar <= 9; bar++) {
            for (int grudge = 0; grudge <= 9; grudge++) {
                String rest = "person b plain age 8 envy 1;grudge a b " + grudge + ";bar " + bar + ";";
                String of = "of bar " + bar + ", grudge " + grudge;
                Check.due("plain " + of, Check.told(Check.people(1, "plain") + rest).day(), grudge >= bar ? 1 : 0);
                Check.due("hermit " + of, Check.told(Check.people(1, "hermit") + rest).day(), grudge >= bar ? 1 : 0);
                Check.due("hot " + of, Check.told(Check.people(1, "hot") + rest).day(), grudge >= Math.max(1, bar - 2) ? 1 : 0);
                Check.due("saint " + of, Check.told(Check.people(1, "saint") + rest).day(), 0);
            }
        }
    }

    private static void dayWho() {
        Check.says("each one alive who has votes, and is no saint, casts one against whom alive");
        Check.due("nobody", new VoteAgainst().day(), 0);
        Check.due("one alone", Check.told(Check.people(1, "hot") + "bar 1;").day(), 0);
        StringBuilder text = new StringBuilder(Check.people(7, "plain"));
        for (char name = 'b'; name < 'h'; name++) {
            text.append("grudge ").append(name).append(" a 9;");
        }
        VoteAgainst x = Check.told(text + "heir c b;");
        x.cast(6, 5);
        x.die(2);
        Check.due("without one who has cast, and the dead", x.day(), 4);
        Check.due("one of his two", x.person(1, 3), 1);
        x.die(0);
        Check.due("against none but the dead", x.day(), 0);
        Check.due("all of seven but him", Check.told(text.toString()).day(), 6);
    }

    private static void dayGreatest() {
        Check.says("his grudge is the greatest (of equal ones the first)");
        VoteAgainst x = Check.told(Check.people(4, "plain") + "grudge d a 7;grudge d b 9;grudge d c 9;grudge a c 8;grudge a d 8;");
        Check.due("two", x.day(), 2);
        Check.due("the first of 9 and 9", x.against(3, 1), 1);
        Check.due("the first of 8 and 8", x.against(0, 2), 1);
    }

    private static void dayGrudgeIsZeroThen() {
        Check.says("his grudge against that one is 0 then.");
        VoteAgainst x = Check.told(THREE + "grudge a b 9;grudge a c 8;grudge b a 6;grudge b c 6;");
        x.day();
        Check.due("against b", x.grudge(0, 1), 0);
        Check.due("against c", x.grudge(0, 2), 8);
        Check.due("of one who has not cast", x.grudge(1, 0), 6);
    }

    private static void dayNext() {
        Check.says("Then it is the next day.");
        VoteAgainst x = Check.told(THREE);
        for (int day = 1; day <= 100; day++) {
            x.day();
            Check.due("day", x.count(4), day);
        }
    }

    private static void undoTheLastSixteen() {
        Check.says("UNDO: all of these, the last 16, one by one.");
        for (int days : new int[] {1, 15, 16, 17, 31, 32, 33, 50}) {
            VoteAgainst x = Check.told(THREE);
            for (int day = 0; day < days; day++) {
                x.day();
            }
            int back = Math.min(16, days);
            Check.due("of " + days, x.count(11), back);
            for (int i = 1; i <= back; i++) {
                Check.due("undo " + i + " of " + days, x.undo(), true);
                Check.due("the day behind it", x.count(4), days - i);
                Check.due("what can be undone", x.count(11), back - i);
            }
            Check.due("one too many of " + days, x.undo(), false);
            Check.due("the day stays", x.count(4), days - back);
            x.day();
            Check.due("then one", x.count(11), 1);
            Check.due("it can be", x.undo(), true);
            Check.due("no more", x.undo(), false);
        }
    }

    private static void undoOneByOne() {
        Check.says("all of these, the last 16, one by one");
        VoteAgainst x = Check.told(THREE + "heir c b;grudge b a 8;");
        x.tax();
        x.gift(0, 1);
        x.cast(0, 2);
        x.die(2);
        Check.due("nobody casts of 7, but b", x.day(), 1);
        Check.due("undo the day", x.undo(), true);
        Check.due("its vote and its grudge", x.against(1, 0) * 100 + x.grudge(1, 0) * 10 + x.count(4), 70);
        Check.due("undo the death", x.undo(), true);
        Check.due("his life and his vote", x.person(2, 7) * 100 + x.person(2, 3) * 10 + x.person(1, 3), 111);
        Check.due("undo the vote", x.undo(), true);
        Check.due("his vote", x.against(0, 2) * 10 + x.person(0, 3), 1);
        Check.due("undo the gift", x.undo(), true);
        Check.due("the grudge ahead of it", x.grudge(1, 0), 9);
        Check.due("undo the tax", x.undo(), true);
        Check.due("the grudges ahead of it", x.grudge(1, 0) * 10 + x.grudge(2, 0), 80);
        Check.due("no more", x.undo(), false);
    }

    private static void undoNothing() {
        Check.says("UNDO: true; false: nothing can be.");
        VoteAgainst x = new VoteAgainst();
        Check.due("at first", x.undo(), false);
        Check.due("days", x.count(4), 0);
        x.day();
        Check.due("a day", x.undo(), true);
        Check.due("what was undone can't be undone", x.undo(), false);
        x.day();
        Check.due("a new republic", Check.republic(x, THREE), 0);
        Check.due("nothing", x.undo(), false);
        x.mark(0, false);
        Check.due("a mark is none of these", x.undo(), false);
        x.hear(3, true);
        Check.years(x, "day;");
        Check.due("nor what is heard, nor years", x.undo(), false);
        Check.due("they stay", x.count(9) + x.count(10), 2);
    }

    /** Each on an object of its own, on which a deed was done. */
    private static void refusedDeedsChangeNothing() {
        Check.says("NONE: others, it can't be.");
        for (int call = 0; call < 9; call++) {
            VoteAgainst x = Check.told("person a hermit age 9 envy 1;person b plain age 8 envy 1;person c hot age 7 envy 9;heir c a;"
                + "grudge a b 4;grudge b a 5;grudge c b 6;");
            x.die(2);
            x.cast(1, 0);
            x.cast(0, 1);
            String before = Check.seen(x);
            int answer = switch (call) {
                case 0 -> x.tax();
                case 1 -> x.gift(0, 2);
                case 2 -> x.gift(2, 0);
                case 3 -> x.gift(1, 1);
                case 4 -> x.cast(1, 0);
                case 5 -> x.cast(0, 2);
                case 6 -> x.cast(2, 0);
                case 7 -> x.cast(0, 0);
                default -> x.die(2);
            };
            Check.due("refused call " + call, answer, -1);
            Check.due("all stays behind call " + call, Check.seen(x).equals(before), true);
            Check.due("undo behind call " + call, x.undo(), true);
            Check.due("a's second vote", x.person(0, 3), 2);
        }
    }
}
