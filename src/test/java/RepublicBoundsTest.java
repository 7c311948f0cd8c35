import java.util.List;

/** The document's bounds of a republic's text and of its faults, sentence by sentence: promises 1 and 3. */
public final class RepublicBoundsTest {
    private static final String TWO = "person a plain age 1 envy 1;person b hot age 2 envy 2;";
    private static final List<String> NO_NAMES = List.of("person", "age", "envy", "grudge", "heir", "bar", "dead", "ties", "grows",
        "eases", "tax", "gift", "cast", "die", "day", "stay", "lapse", "old", "young", "plain", "saint", "hot", "hermit", "not",
        "and", "or");

    public static void main(String[] args) {
        atFirst();
        anyNumber();
        sevenAtMost();
        kinds();
        ageAndEnvy();
        grudgeOfPeopleTold();
        grudgeOnce();
        heirOfPeopleTold();
        bar();
        deadAndTies();
        onceEach();
        aSecondTime();
        names();
        noTwoAlike();
        place();
        end();
        firstTokenLeastKind();
        misplaced();
        unknown();
        toldAlready();
        secondIsFirst();
        toldSo();
        hasHeir();
        notAsTold();
        oneTooMany();
        fromThenOn();
        allStays();
        Check.end();
    }

    private static void atFirst() {
        Check.says("`VoteAgainst()`: Nobody, bar 7.");
        Check.due("people", new VoteAgainst().count(0), 0);
        Check.due("bar", new VoteAgainst().count(1), 7);
        Check.says("At first: nobody, bar 7.");
        VoteAgainst x = new VoteAgainst();
        Check.due("people", x.count(0), 0);
        Check.due("bar", x.count(1), 7);
        Check.due("alive", x.count(5), 0);
        Check.due("governs()", x.governs(), -1);
        Check.due("a tax", x.tax(), -1);
        Check.due("a gift", x.gift(0, 1), -1);
        Check.due("a vote", x.cast(0, 1), -1);
        Check.due("a death", x.die(0), -1);
        Check.due("undo()", x.undo(), false);
        Check.due("a day", x.day(), 0);
        Check.due("the next day", x.count(4), 1);
        Check.due("undo()", x.undo(), true);
        Check.due("day 0", x.count(4), 0);
        Check.due("quiets()", x.quiets(), 0);
        Check.due("ease()", x.ease(), 0);
        Check.due("a mark", x.mark(0, false), true);
        Check.due("back", x.mark(0, true), true);
    }

    private static void anyNumber() {
        Check.says("REPUBLIC: any number of");
        Check.due("none", Check.told("").count(0), 0);
        Check.due("one", Check.told(Check.people(1, "plain")).count(0), 1);
        Check.due("in any order", Check.told("bar 2;" + Check.people(1, "plain") + "ties old;person z hot age 1 envy 1;").count(0), 2);
        Check.wrongRepublic(1, "^;");
        Check.wrongRepublic(1, "bar 2;^;");
    }

    private static void sevenAtMost() {
        Check.says("person: 7 at most, numbered as told");
        VoteAgainst x = Check.told(Check.people(7, "plain"));
        Check.due("seven", x.count(0), 7);
        for (int person = 0; person < 7; person++) {
            Check.due("age of " + person, x.person(person, 1), 9 - person);
        }
        Check.due("no eighth", x.person(7, 1), -2);
        Check.wrongRepublic(5, Check.people(7, "plain") + "^person h plain age 1 envy 1;");
    }

    private static void kinds() {
        Check.says("KIND: plain, saint, hot, hermit");
        String[] kinds = {"plain", "saint", "hot", "hermit"};
        for (int kind = 0; kind < 4; kind++) {
            Check.due(kinds[kind], Check.told(Check.people(1, kinds[kind])).person(0, 0), kind);
        }
        Check.wrongRepublic(1, "person a ^king age 1 envy 1;");
        Check.wrongRepublic(1, "person a ^age 1 envy 1;");
        Check.wrongRepublic(1, "person a ^young age 1 envy 1;");
        Check.wrongRepublic(1, "person a ^not age 1 envy 1;");
        Check.wrongRepublic(1, "person a plain ^hot age 1 envy 1;");
    }

    private static void ageAndEnvy() {
        Check.says("age 0 to 99, envy 0 to 9.");
        VoteAgainst x = Check.told("person a plain age 0 envy 0;person b plain age 99 envy 9;person c plain age 0099 envy 0009;");
        Check.due("age 0", x.person(0, 1), 0);
        Check.due("envy 0", x.person(0, 2), 0);
        Check.due("age 99", x.person(1, 1), 99);
        Check.due("envy 9", x.person(1, 2), 9);
        Check.due("age 0099", x.person(2, 1), 99);
        Check.due("envy 0009", x.person(2, 2), 9);
        Check.wrongRepublic(4, "person a plain age ^100 envy 1;");
        Check.wrongRepublic(4, "person a plain age ^9999 envy 1;");
        Check.wrongRepublic(4, "person a plain age 99 envy ^10;");
        Check.wrongRepublic(4, "person a plain age 99 envy ^9999;");
        Check.wrongRepublic(1, "person a plain age ^-1 envy 1;");
        Check.wrongRepublic(1, "person a plain age ^10000 envy 1;");
    }

    private static void grudgeOfPeopleTold() {
        Check.says("grudge: of a PERSON told against another one told");
        Check.wrongRepublic(2, "grudge ^a b 1;" + TWO);
        Check.wrongRepublic(2, "person a plain age 1 envy 1;grudge a ^b 1;person b plain age 1 envy 1;");
        Check.wrongRepublic(2, "person a plain age 1 envy 1;grudge ^b a 1;person b plain age 1 envy 1;");
        Check.wrongRepublic(3, TWO + "grudge b ^b 1;");
        VoteAgainst x = Check.told(Check.people(7, "plain") + "grudge g a 4;grudge a g 5;");
        Check.due("of the last one", x.grudge(6, 0), 4);
        Check.due("against the last one", x.grudge(0, 6), 5);
        Check.says("each so once, 0 to 9 (0)");
        VoteAgainst y = Check.told(TWO + "person c hot age 1 envy 1;grudge a b 0;grudge b a 9;");
        Check.due("0", y.grudge(0, 1), 0);
        Check.due("9", y.grudge(1, 0), 9);
        Check.due("none told", y.grudge(2, 0), 0);
        Check.wrongRepublic(4, TWO + "grudge a b ^10;");
        Check.wrongRepublic(1, TWO + "grudge a b ^-1;");
        Check.wrongRepublic(1, TWO + "grudge a b ^;");
    }

    private static void grudgeOnce() {
        Check.says("each so once");
        Check.told(TWO + "grudge a b 1;grudge b a 1;");
        Check.wrongRepublic(3, TWO + "grudge a b 1;grudge a ^b 2;");
        Check.wrongRepublic(3, TWO + "grudge b a 0;grudge a b 0;grudge b ^a 0;");
    }

    private static void heirOfPeopleTold() {
        Check.says("heir: of a PERSON told another one told, one at most each.");
        VoteAgainst x = Check.told(TWO + "person c hot age 1 envy 1;heir a c;heir b c;");
        Check.due("one is heir of two", x.person(0, 6) + 10 * x.person(1, 6), 22);
        Check.due("none", x.person(2, 6), -1);
        Check.due("each other's", Check.told(TWO + "heir a b;heir b a;").person(1, 6), 0);
        Check.wrongRepublic(2, "heir ^a b;" + TWO);
        Check.wrongRepublic(2, TWO + "heir a ^c;person c hot age 1 envy 1;");
        Check.wrongRepublic(3, TWO + "heir a ^a;");
        Check.wrongRepublic(3, TWO + "person c hot age 1 envy 1;heir a b;heir ^a c;");
    }

    private static void bar() {
        Check.says("bar 1 to 9 (7).");
        for (int bar = 1; bar <= 9; bar++) {
            Check.due("bar " + bar, Check.told("bar " + bar + ";").count(1), bar);
        }
        Check.due("none told", Check.told(TWO).count(1), 7);
        VoteAgainst x = Check.told("bar 3;");
        Check.due("none told behind another republic", Check.republic(x, TWO), 0);
        Check.due("it is 7", x.count(1), 7);
        Check.wrongRepublic(4, "bar ^0;");
        Check.wrongRepublic(4, "bar ^10;");
        Check.wrongRepublic(4, "bar ^0000;");
        Check.wrongRepublic(4, "bar ^9999;");
        Check.wrongRepublic(1, "bar ^;");
    }

    private static void deadAndTies() {
        Check.says("dead: stay, lapse (stay). ties: old, young (old).");
        VoteAgainst x = Check.told("dead lapse;ties young;");
        Check.due("lapse", x.count(2), 1);
        Check.due("young", x.count(3), 1);
        Check.due("none told behind another republic", Check.republic(x, TWO), 0);
        Check.due("they stay", x.count(2), 0);
        Check.due("the old one", x.count(3), 0);
        Check.due("stay", Check.told("dead stay;").count(2), 0);
        Check.due("old", Check.told("ties old;").count(3), 0);
        Check.wrongRepublic(1, "dead ^old;");
        Check.wrongRepublic(1, "dead ^;");
        Check.wrongRepublic(1, "ties ^lapse;");
        Check.wrongRepublic(1, "ties ^1;");
    }

    private static void onceEach() {
        Check.says("bar, dead, ties, grows, eases: once each.");
        String[] lines = {"bar 1", "dead stay", "ties old", "grows 1", "eases 1"};
        Check.told(String.join(";", lines) + ";");
        for (String line : lines) {
            Check.told(line + ";");
            Check.wrongRepublic(3, line + ";^" + line + ";");
        }
        VoteAgainst x = Check.told("bar 1;");
        Check.due("in another republic once more", Check.republic(x, "bar 2;"), 0);
        Check.due("behind a fault once more", Check.republic(x, "bar 3;bar 3;"), Check.fault(3, 6));
        Check.due("and again", Check.republic(x, "bar 4;"), 0);
        Check.due("the bar", x.count(1), 4);
    }

    private static void aSecondTime() {
        Check.says("bar, dead, ties, grows, eases a second time");
        String[] lines = {"bar 1", "dead stay", "ties old", "grows 1", "eases 1"};
        for (String line : lines) {
            String word = line.substring(0, line.indexOf(' '));
            Check.wrongRepublic(3, String.join(";", lines) + ";^" + line + ";");
            Check.wrongRepublic(3, line + ";" + TWO + "^" + word);
            Check.wrongRepublic(3, line + ";^" + word + " ?");
            Check.wrongRepublic(1, line + " ^" + word);
        }
    }

    private static void names() {
        Check.says("A NAME is another WORD than person, age, envy, grudge, heir, bar, dead, ties, grows, eases, tax, gift, cast, die, day, "
            + "stay, lapse, old, young, the KINDS, not, and, or");
        for (String word : NO_NAMES) {
            Check.wrongRepublic(1, "person ^" + word + " plain age 1 envy 1;");
            Check.wrongRepublic(1, TWO + "grudge ^" + word + " a 1;");
            Check.wrongRepublic(1, TWO + "grudge a ^" + word + " 1;");
            Check.wrongRepublic(1, TWO + "heir ^" + word + " a;");
            Check.wrongRepublic(1, TWO + "heir a ^" + word + ";");
            Check.wrongYears(1, TWO, "die ^" + word + ";");
            Check.told("person " + word.substring(1) + "q plain age 1 envy 1;person " + word + "q hot age 1 envy 1;");
        }
        for (String fact : new String[] {"has", "jealous", "years", "known"}) {
            Check.due(fact + " may be one", Check.told("person " + fact + " plain age 1 envy 1;grows " + fact + ";").count(0), 1);
        }
        for (String no : new String[] {"1", ";", "(", "?", ""}) {
            Check.wrongRepublic(1, "person ^" + no);
        }
    }

    private static void noTwoAlike() {
        Check.says("no two are alike.");
        Check.wrongRepublic(3, "person a plain age 1 envy 1;person ^a hot age 2 envy 2;");
        Check.wrongRepublic(3, Check.people(6, "plain") + "person ^a hot age 2 envy 2;");
        Check.wrongRepublic(3, "person abcdefgh plain age 1 envy 1;person ^abcdefgh hot age 2 envy 2;");
        VoteAgainst x = Check.told("person a plain age 1 envy 1;person aa plain age 2 envy 1;person aaaaaaaa plain age 3 envy 1;"
            + "person aaaaaaab plain age 4 envy 1;person baaaaaaa plain age 5 envy 1;person zzzzzzzz plain age 6 envy 1;"
            + "person zzzzzzz plain age 7 envy 1;heir aaaaaaab baaaaaaa;heir zzzzzzz zzzzzzzz;heir a aa;");
        Check.due("heir of aaaaaaab", x.person(3, 6), 4);
        Check.due("heir of zzzzzzz", x.person(6, 6), 5);
        Check.due("heir of a", x.person(0, 6), 1);
    }

    private static void place() {
        Check.says("FAULTS, kind + 16 * the place (from 0) of a token");
        Check.due("kind 1, place 0", Check.republic(new VoteAgainst(), "?"), 1);
        Check.due("kind 1, place 1", Check.republic(new VoteAgainst(), " ?"), 17);
        Check.due("kind 2, place 7", Check.republic(new VoteAgainst(), "grudge a"), 114);
        Check.due("kind 3, place 6", Check.republic(new VoteAgainst(), "bar 1;bar"), 99);
        Check.due("kind 4, place 4", Check.republic(new VoteAgainst(), "bar 0"), 68);
        Check.due("kind 5, place 11", Check.republic(new VoteAgainst(), "grows (((((1"), 181);
        Check.due("kind 1, place 999", Check.republic(new VoteAgainst(), " ".repeat(999) + "?"), 15985);
        Check.due("kind 1, place 1,000", Check.republic(new VoteAgainst(), " ".repeat(997) + "bar"), 16001);
        Check.due("of years", Check.years(new VoteAgainst(), "day; ?"), 81);
    }

    private static void end() {
        Check.says("the end being one at the text's length");
        Check.wrongRepublic(1, "bar 1^");
        Check.wrongRepublic(1, "bar 1 \n\n ^");
        Check.wrongRepublic(1, "bar^");
        Check.wrongRepublic(1, "grows (1^");
        Check.wrongRepublic(1, "grows 1 + ^");
        Check.wrongRepublic(1, "grows^");
        Check.wrongRepublic(1, "person^");
        Check.wrongRepublic(1, TWO + "heir a ^");
        Check.wrongRepublic(1, " ".repeat(997) + "bar^");
        Check.wrongYears(1, TWO, "gift a \n^");
        Check.wrongYears(1, TWO, "day^");
    }

    private static void firstTokenLeastKind() {
        Check.says("of the first token from the left that is wrong the least");
        // Two tokens are wrong.
        Check.wrongRepublic(4, "bar ^0; ?");
        Check.wrongRepublic(1, "^? bar 0;");
        Check.wrongRepublic(5, Check.people(7, "plain") + "^person a king age 100 envy 10");
        Check.wrongRepublic(3, TWO + "heir a b;heir ^a a;");
        // One token is wrong twice.
        Check.wrongRepublic(2, "grudge ^x x 1;");
        Check.wrongRepublic(1, "grows (((((^age)))));");
        Check.wrongRepublic(1, "grows (((((^10000)))));");
        Check.wrongYears(1, TWO, "day;".repeat(40) + "^person");
        Check.wrongYears(1, TWO, "day;".repeat(40) + "^abcdefghi");
    }

    private static void misplaced() {
        Check.says("1 it is none, or can't stand there");
        Check.wrongRepublic(1, "^tax;");
        Check.wrongRepublic(1, "^a;");
        Check.wrongRepublic(1, "^1;");
        Check.wrongRepublic(1, "bar ^a;");
        Check.wrongRepublic(1, "bar 1 ^dead stay;");
        Check.wrongRepublic(1, "person a plain ^envy 1 age 1;");
        Check.wrongRepublic(1, "person a plain age 1 ^;");
        Check.wrongRepublic(1, "person a plain age 1 envy 1 ^1;");
        Check.wrongRepublic(1, TWO + "grudge a b 1 ^+ 1;");
        Check.wrongRepublic(1, TWO + "heir a b ^1;");
        Check.wrongRepublic(1, "grows ^;");
        Check.wrongRepublic(1, "grows 1 ^1;");
        Check.wrongRepublic(1, "grows 1^);");
        Check.wrongRepublic(1, "grows 1 < 2 ^< 3;");
    }

    private static void unknown() {
        Check.says("2 a NAME of no PERSON told");
        Check.wrongRepublic(2, TWO + "grudge ^c a 1;");
        Check.wrongRepublic(2, TWO + "grudge a ^c 1;");
        Check.wrongRepublic(2, TWO + "heir ^c a;");
        Check.wrongRepublic(2, TWO + "heir a ^ab;");
        Check.wrongRepublic(2, TWO + "heir a ^has;");
        VoteAgainst x = Check.told("person zed hot age 1 envy 1;");
        Check.due("one of the last republic alone", Check.republic(x, TWO + "heir a zed;"), Check.fault(2, TWO.length() + 7));
        Check.due("one of a republic of a fault", Check.years(x, "die a;"), Check.fault(2, 4));
    }

    private static void toldAlready() {
        Check.says("3 a NAME told already");
        Check.wrongRepublic(3, TWO + "person ^b saint age 3 envy 3;");
        Check.wrongRepublic(3, TWO + "person ^a");
        VoteAgainst x = Check.told(TWO);
        Check.due("in the last republic", Check.republic(x, TWO), 0);
    }

    private static void secondIsFirst() {
        Check.says("the second NAME of grudge, heir, gift, cast that is the first one");
        Check.wrongRepublic(3, TWO + "grudge b ^b 1;");
        Check.wrongRepublic(3, TWO + "heir b ^b;");
        Check.wrongYears(3, TWO, "gift b ^b;");
        Check.wrongYears(3, TWO, "cast b ^b;");
    }

    private static void toldSo() {
        Check.says("of grudge of two told so");
        Check.wrongRepublic(3, TWO + "grudge a b 3;grudge a ^b 3;");
        Check.told(TWO + "grudge a b 3;grudge b a 3;");
        VoteAgainst x = Check.told(TWO + "grudge a b 3;");
        Check.due("in the last republic", Check.republic(x, TWO + "grudge a b 4;"), 0);
        Check.due("grudge(0, 1)", x.grudge(0, 1), 4);
        Check.due("told in the last republic alone", Check.republic(x, TWO), 0);
        Check.due("grudge(0, 1)", x.grudge(0, 1), 0);
    }

    private static void hasHeir() {
        Check.says("the first one of heir that has one");
        Check.wrongRepublic(3, TWO + "heir a b;heir ^a b;");
        Check.wrongRepublic(3, TWO + "heir b a;heir ^b ?");
        Check.told(TWO + "heir a b;heir b a;");
        VoteAgainst x = Check.told(TWO + "heir a b;");
        Check.due("in the last republic", Check.republic(x, TWO + "heir a b;"), 0);
        Check.due("in the last republic alone", Check.republic(x, TWO), 0);
        Check.due("no heir", x.person(0, 6), -1);
    }

    private static void notAsTold() {
        Check.says("4 a NUMBER that is not as told");
        Check.wrongRepublic(4, "person a plain age ^100 envy 10;");
        Check.wrongRepublic(4, "person a plain age 9 envy ^10;");
        Check.wrongRepublic(4, TWO + "grudge a b ^10;");
        Check.wrongRepublic(4, "bar ^0;");
        Check.wrongRepublic(4, "bar ^10;");
        Check.wrongRepublic(4, "bar ^99x;");
    }

    private static void oneTooMany() {
        Check.says("5 one too many: the word person of an eighth, the first word of a 41st line of YEARS");
        Check.told(Check.people(7, "hermit") + "bar 1;");
        Check.wrongRepublic(5, Check.people(7, "hermit") + "bar 1;^person");
        Check.wrongRepublic(5, Check.people(7, "hermit") + "^person 1");
        for (String line : new String[] {"tax", "gift a b", "cast a b", "die a", "day"}) {
            Check.due("a 40th", Check.years(Check.told(TWO), "day;".repeat(39) + line + ";"), 0);
            Check.wrongYears(5, TWO, "day;".repeat(40) + "^" + line + ";");
            Check.wrongYears(5, TWO, "day;".repeat(40) + "\n^" + line);
        }
    }

    private static void fromThenOn() {
        Check.says("Without a FAULT a REPUBLIC is the REPUBLIC from then on: day 0, all alive, each with one vote, none cast, grudges as told, "
            + "no YEARS, no QUIET, nothing can be undone, no MARK is there.");
        String text = TWO + "grudge a b 3;";
        String first = Check.seen(Check.told(text));
        VoteAgainst x = Check.told(text);
        spoil(x);
        Check.due("another one now", Check.seen(x).equals(first), false);
        Check.due("the same republic", Check.republic(x, text), 0);
        Check.due("as at first", Check.seen(x).equals(first), true);
        int[] counts = {2, 7, 0, 0, 0, 3, 2, 3, 0, 0, 0, 0, 0};
        for (int what = 0; what < counts.length; what++) {
            Check.due("count(" + what + ")", x.count(what), counts[what]);
        }
        Check.due("bars(0)", x.bars(0), 9);
        Check.due("judged(1)", x.judged(1), -1);
        Check.due("nothing can be undone", x.undo(), false);
        for (int mark = 0; mark < 4; mark++) {
            Check.due("mark " + mark, x.mark(mark, true), false);
        }
    }

    /** Years, what is quiet, deeds, and all marks. */
    private static void spoil(VoteAgainst x) {
        Check.due("years", Check.years(x, "tax;day;"), 0);
        Check.due("hear", x.hear(3, true), true);
        x.tax();
        x.cast(0, 1);
        x.day();
        x.die(1);
        for (int mark = 0; mark < 4; mark++) {
            Check.due("mark " + mark, x.mark(mark, false), true);
        }
    }

    private static void allStays() {
        Check.says("The TAPE is read as a REPUBLIC: 0, or its FAULT (all stays then).");
        VoteAgainst x = Check.told(TWO + "grudge a b 3;heir a b;grows 3;");
        spoil(x);
        String before = Check.seen(x);
        String other = "person b hermit age 7 envy 7;person a saint age 8 envy 8;heir b a;grudge b a 9;dead lapse;ties young;grows 5;eases 5;";
        Check.due("a fault at its end", Check.republic(x, other + "bar 10;"), Check.fault(4, other.length() + 4));
        Check.due("all stays", Check.seen(x).equals(before), true);
        Check.due("what can be undone", x.undo(), true);
        Check.due("both live", x.count(5), 3);
        Check.due("the names", Check.years(x, "die b;day;"), 0);
        Check.due("b is the second one", x.judged(1), 0);
        Check.due("a governs then", x.judged(2), 0);
        for (int mark = 0; mark < 4; mark++) {
            Check.due("mark " + mark, x.mark(mark, true), true);
        }
    }
}
