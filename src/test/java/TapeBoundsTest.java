/** The document's bounds of the tape and of its tokens, sentence by sentence: promise 2, and what reads the tape. */
public final class TapeBoundsTest {
    private static final String ONE = "person a hot age 1envy1;";

    public static void main(String[] args) {
        atMostThousandSigns();
        whatIsBeyondIsLeftOut();
        signsThatAreTaken();
        upToTwentyFour();
        theHighestFirst();
        readingTakesIt();
        longestWord();
        longestNumber();
        letterRightBehind();
        asLongAsCanBe();
        blanks();
        allElseIsNone();
        Check.end();
    }

    private static void atMostThousandSigns() {
        Check.says("The TAPE has at most 1,000 signs");
        VoteAgainst x = new VoteAgainst();
        Check.due("999", Check.feed(x, " ".repeat(999)), 999);
        Check.due("1,000", x.feed(' ', 0, 0), 1000);
        Check.due("one too many", x.feed(0, ' ', 0), 1000);
        Check.due("24 too many", Check.feed(x, " ".repeat(24)), 1000);
        Check.due("count(12)", x.count(12), 1000);
        Check.due("a full tape is read", x.republic(), 0);
        Check.due("then there is room again", Check.feed(x, " ".repeat(1000)), 1000);
        Check.due("it is full again", x.feed(0, 0, ' '), 1000);
        // Tokens that end where the tape does, most of them the beginning of a longer one.
        for (String last : new String[] {"p", "pers", "bar", "grow", "ea", "not", "a", "abcdefgh", "abcdefghi", "1", "9999", "00000", "(", ";", "?"}) {
            String text = " ".repeat(1000 - last.length()) + last;
            int place = last.equals("bar") ? 1000 : 1000 - last.length();
            Check.due("a full tape with " + last, Check.republic(new VoteAgainst(), text), Check.fault(1, place));
            Check.due("years of it", Check.years(new VoteAgainst(), text), Check.fault(1, 1000 - last.length()));
        }
        Check.due("a full tape of lines", Check.told("bar 3;" + " ".repeat(987) + "grows1;").count(1), 3);
    }

    private static void whatIsBeyondIsLeftOut() {
        Check.says("and what is beyond 1,000, are left out: how many there are");
        VoteAgainst x = new VoteAgainst();
        Check.feed(x, " ".repeat(994));
        Check.due("six fit", Check.feed(x, "bar 3;"), 1000);
        Check.due("no more fit", Check.feed(x, "bar 4;"), 1000);
        Check.due("the first thousand stay", x.republic(), 0);
        Check.due("the bar", x.count(1), 3);
        Check.feed(x, " ".repeat(995));
        Check.due("five of six fit", Check.feed(x, "bar 4;"), 1000);
        Check.due("the last one is missing", x.republic(), Check.fault(1, 1000));
        Check.due("the bar stays", x.count(1), 3);
        Check.feed(x, " ".repeat(994));
        Check.due("signs left out take no room", x.feed(0x0062_0061_0072_0020L, 0x7f35_7f3b_7f7fL, ' '), 1000);
        Check.due("republic()", x.republic(), 0);
        Check.due("the bar", x.count(1), 5);
    }

    private static void signsThatAreTaken() {
        Check.says("others than 10 and 32 .. 126");
        for (int sign = 0; sign < 256; sign++) {
            int isTaken = sign == 10 || sign >= 32 && sign <= 126 ? 1 : 0;
            for (int shift = 0; shift < 64; shift += 8) {
                long eight = (long) sign << shift;
                String byteOf = "byte " + sign + " at " + shift + " of ";
                Check.due(byteOf + "a", new VoteAgainst().feed(eight, 0, 0), isTaken);
                Check.due(byteOf + "b", new VoteAgainst().feed(0, eight, 0), isTaken);
                Check.due(byteOf + "c", new VoteAgainst().feed(0, 0, eight), isTaken);
            }
        }
    }

    private static void upToTwentyFour() {
        Check.says("Up to 24 signs come behind the TAPE");
        VoteAgainst x = new VoteAgainst();
        long eight = 0x2020202020202020L;
        Check.due("none", x.feed(0, 0, 0), 0);
        Check.due("none of the greatest bytes", x.feed(-1, -1, -1), 0);
        Check.due("none of the least numbers", x.feed(Long.MIN_VALUE, Long.MIN_VALUE, Long.MIN_VALUE), 0);
        Check.due("one", x.feed(0, 0, ' '), 1);
        Check.due("24", x.feed(eight, eight, eight), 25);
        Check.due("none behind 25", x.feed(0, 0, 0), 25);
    }

    private static void theHighestFirst() {
        Check.says("the bytes of a, b, c, of each the highest first");
        VoteAgainst x = new VoteAgainst();
        Check.due("24 signs", Check.feed(x, ONE), 24);
        Check.due("republic()", x.republic(), 0);
        Check.due("the kind", x.person(0, 0), 2);
        // "bar 3;" of the lowest bytes, then of the highest ones.
        Check.due("six signs", x.feed(0x6261L, 0x7220_0000_0000_0000L, 0x33_003bL), 6);
        Check.due("republic()", x.republic(), 0);
        Check.due("the bar", x.count(1), 3);
    }

    private static void readingTakesIt() {
        Check.says("what reads it takes it: it is empty then");
        VoteAgainst x = new VoteAgainst();
        Check.due("a republic", Check.republic(x, ONE), 0);
        Check.due("empty", x.count(12), 0);
        Check.due("a republic's fault", Check.republic(x, ONE + "?"), Check.fault(1, 24));
        Check.due("empty", x.count(12), 0);
        Check.due("years", Check.years(x, "day;day;"), 0);
        Check.due("empty", x.count(12), 0);
        Check.due("years' fault", Check.years(x, "day;day;day"), Check.fault(1, 11));
        Check.due("empty", x.count(12), 0);
        Check.due("the next sign is the first one", x.feed('?', 0, 0), 1);
        Check.due("its place is 0", x.years(), Check.fault(1, 0));
        Check.due("an empty tape is no fault of years", x.years(), 0);
        Check.due("there are no years then", x.count(9), 0);
        Check.due("an empty tape is no fault of a republic", x.republic(), 0);
        Check.due("there is nobody then", x.count(0), 0);
    }

    private static void longestWord() {
        Check.says("WORDS (letters a .. z, 8 at most)");
        for (String name : new String[] {"a", "z", "az", "aaaaaaaa", "zzzzzzzz", "abcdefgh"}) {
            Check.told("person " + name + " plain age 1 envy 1;");
        }
        Check.wrongRepublic(1, "person ^abcdefghi plain age 1 envy 1;");
        Check.wrongRepublic(1, "person ^zzzzzzzzz plain age 1 envy 1;");
        Check.wrongRepublic(1, "^" + "a".repeat(1000));
        for (char sign : new char[] {'`', '{', '@', '[', 'A', 'Z', '_'}) {
            Check.wrongRepublic(1, "person ^" + sign + " plain age 1 envy 1;");
            Check.wrongRepublic(1, "person a^" + sign + " plain age 1 envy 1;");
        }
    }

    private static void longestNumber() {
        Check.says("NUMBERS (1 to 4 digits;");
        Check.due("one digit", Check.told("bar 9;").count(1), 9);
        Check.due("four digits", Check.told("bar 0009;").count(1), 9);
        Check.wrongRepublic(1, "bar ^00009;");
        Check.wrongRepublic(1, "bar ^;");
        Check.wrongRepublic(1, "bar ^" + "0".repeat(996));
        Check.told("grows 9999;");
        Check.wrongRepublic(1, "grows ^10000;");
        // Of nothing but its last ten digits it would be 1 again.
        Check.wrongRepublic(1, "bar ^4294967297;");
        Check.wrongRepublic(1, "bar ^/;");
        Check.wrongRepublic(1, "bar ^:;");
        Check.wrongRepublic(1, "bar 1^:");
    }

    private static void letterRightBehind() {
        Check.says("a letter may stand right behind)");
        VoteAgainst x = Check.told("person a plain age 99envy 8;grows 2and 3or 0;");
        Check.due("the age", x.person(0, 1), 99);
        Check.due("the envy", x.person(0, 2), 8);
        Check.wrongRepublic(1, "bar 1^x;");
        Check.wrongRepublic(1, "bar ^12345x;");
    }

    private static void asLongAsCanBe() {
        Check.says("TOKENS, each as long as can be");
        Check.wrongRepublic(1, "^barx 1;");
        Check.wrongRepublic(1, "^ba r 1;");
        Check.wrongRepublic(4, "bar ^11;");
        Check.wrongRepublic(1, "bar 1 ^1;");
        Check.wrongRepublic(1, "grows ^notnot 1;");
        Check.due("a number right behind a word", Check.told("bar6;").count(1), 6);
        Check.told("person persons plain age 1 envy 1;person agee hot age 1 envy 1;");
    }

    private static void blanks() {
        Check.says("blanks (10, 32) between where one likes");
        Check.told(" ".repeat(500) + "\n".repeat(500));
        Check.due("around all", Check.told("\n bar \n\n 3 \n ; \n").count(1), 3);
        Check.due("none where none is needed", Check.told("grows(1)+2<(3)and not(4);bar4;").count(1), 4);
        Check.wrongRepublic(1, "bar 1 \n ^");
    }

    private static void allElseIsNone() {
        Check.says("All else (a longer WORD or NUMBER, too, at its first sign) is none.");
        for (char sign = 33; sign <= 126; sign++) {
            boolean isKnown = "()<=+-*;".indexOf(sign) >= 0 || sign >= 'a' && sign <= 'z' || sign >= '0' && sign <= '9';
            if (!isKnown) {
                Check.wrongRepublic(1, "grows 1 ^" + sign + " 1;");
                Check.wrongRepublic(1, "^" + sign);
                Check.wrongYears(1, "", "day^" + sign);
            }
        }
        for (char sign : new char[] {'<', '=', '+', '-', '*'}) {
            Check.told("grows 1" + sign + "1;");
        }
        Check.wrongRepublic(1, "bar   ^00001;");
        Check.wrongYears(1, ONE, "die  ^abcdefghi;");
    }
}
