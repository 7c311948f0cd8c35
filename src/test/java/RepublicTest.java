/** Promise 3: the tape is read as a republic; of the first token that is wrong the least fault. */
public final class RepublicTest {
    private static final String TWO = "person a plain age 1 envy 1;person b hot age 2 envy 2;";

    public static void main(String[] args) {
        lines();
        tokens();
        people();
        grudgesAndHeirs();
        once();
        laws();
        depth();
        allStays();
        Check.end();
    }

    private static void wrong(int kind, String marked) {
        Check.wrongRepublic(kind, marked);
    }

    private static void fine(String text) {
        Check.told(text);
    }

    private static void lines() {
        fine("");
        fine(" \n ");
        fine("bar 1;");
        wrong(1, "^;");
        wrong(1, "bar 1;^;");
        wrong(1, "^tax;");
        wrong(1, "^3;");
        wrong(1, "^ann;");
        wrong(1, "bar 1^");
        wrong(1, "bar 1  \n^");
        wrong(1, "bar^");
        wrong(1, "bar 1 ^bar 2;");
    }

    private static void tokens() {
        fine("bar007;");
        fine("bar0009;");
        wrong(1, "bar ^00009;");
        wrong(1, "^barr 1;");
        wrong(1, "^Bar 1;");
        wrong(1, "bar ^-1;");
        wrong(1, "bar 1^,");
        wrong(1, "bar 1 ^~;");
        wrong(1, "^barbarbar 1;");
        wrong(1, "bar 1^x;");
        fine("person abcdefgh plain age 99envy 9;");
        wrong(1, "person ^abcdefghi plain age 99 envy 9;");
        wrong(1, "person ab^1 plain age 9 envy 9;");
        fine("person\na\nplain\nage\n0\nenvy\n0\n;\n");
        fine("grows 1<2and 3=4or has;");
    }

    private static void people() {
        fine("person a plain age 0 envy 0;person b saint age 99 envy 9;person c hot age 5 envy 5;person d hermit age 1 envy 1;");
        fine("person has plain age 1 envy 1;person jealous plain age 1 envy 1;person years plain age 1 envy 1;person known plain age 1 envy 1;");
        for (String word : Model.RESERVED) {
            wrong(1, "person ^" + word + " plain age 1 envy 1;");
        }
        wrong(3, "person a plain age 1 envy 1;person ^a plain age 1 envy 1;");
        wrong(1, "person a ^b plain age 1 envy 1;");
        wrong(1, "person a plain ^envy 1 age 1;");
        wrong(1, "person a plain age ^x envy 1;");
        wrong(4, "person a plain age ^100 envy 1;");
        wrong(1, "person a plain age 1 ^;");
        wrong(4, "person a plain age 1 envy ^10;");
        wrong(1, "person a plain age 1 envy 1^");
        StringBuilder seven = new StringBuilder();
        for (char name = 'a'; name < 'h'; name++) {
            seven.append("person ").append(name).append(" plain age 1 envy 1;");
        }
        fine(seven.toString());
        wrong(5, seven + "^person");
        wrong(5, seven + "^person a plain age 1 envy 1;");
    }

    private static void grudgesAndHeirs() {
        fine(TWO + "grudge a b 0;grudge b a 9;heir a b;heir b a;");
        wrong(1, TWO + "grudge ^bar b 1;");
        wrong(1, TWO + "grudge ^1 b 1;");
        wrong(2, TWO + "grudge ^c b 1;");
        wrong(1, TWO + "grudge a ^plain 1;");
        wrong(2, TWO + "grudge a ^c 1;");
        wrong(2, "grudge ^a a 1;");
        wrong(3, TWO + "grudge a ^a 1;");
        wrong(3, TWO + "grudge a b 0;grudge a ^b 0;");
        wrong(3, TWO + "grudge a b 1;grudge b a 1;grudge b ^a 1;");
        wrong(1, TWO + "grudge a b ^;");
        wrong(4, TWO + "grudge a b ^10;");
        wrong(2, "person a plain age 1 envy 1;grudge a ^b 1;person b plain age 1 envy 1;");
        wrong(2, TWO + "heir ^c a;");
        wrong(2, TWO + "heir a ^c;");
        wrong(3, TWO + "heir a ^a;");
        wrong(3, TWO + "heir a b;heir ^a b;");
        wrong(3, TWO + "heir a b;heir ^a old;");
        wrong(1, TWO + "heir a ^old;");
        wrong(1, TWO + "heir a b ^b;");
    }

    private static void once() {
        fine("bar 9;dead stay;ties old;grows 1;eases 1;");
        fine("eases 1;grows 1;ties young;dead lapse;bar 1;");
        wrong(3, "bar 9;^bar 9;");
        wrong(3, "dead stay;^dead lapse;");
        wrong(3, "ties old;^ties young;");
        wrong(3, "grows 1;^grows 1;");
        wrong(3, "eases 1;^eases 1;");
        wrong(3, "bar 9;^bar");
        wrong(4, "bar ^0;");
        wrong(4, "bar ^10;");
        wrong(1, "bar ^;");
        wrong(1, "dead ^young;");
        wrong(1, "dead ^x;");
        wrong(1, "dead ^1;");
        wrong(1, "ties ^lapse;");
        wrong(1, "ties ^;");
    }

    private static void laws() {
        fine("grows 9999;");
        fine("grows 1 + 2 - 3 * 4 < 5 and 6 = 7 or 8;");
        fine("grows not not has*(jealous+years)-known;");
        wrong(1, "grows ^;");
        wrong(1, "grows ^");
        wrong(1, "grows ^-1;");
        wrong(1, "grows ^10000;");
        wrong(1, "grows ^age;");
        wrong(1, "grows ^ann;");
        wrong(1, "grows 1 ^2;");
        wrong(1, "grows 1 ^has;");
        wrong(1, "grows 1 ^not 2;");
        wrong(1, "grows 1 ^(2);");
        wrong(1, "grows 1 + ^;");
        wrong(1, "grows 1 + ^+ 2;");
        wrong(1, "grows 1 and ^and 2;");
        wrong(1, "grows 1 < 2 ^< 3;");
        wrong(1, "grows 1 = 2 + 3 * 4 ^< 3;");
        wrong(1, "grows 1 < 2 ^= 3;");
        fine("grows (1 < 2) < 3;");
        fine("grows 1 < 2 and 3 < 4;");
        fine("grows 1 < (2 < 3);");
        wrong(1, "grows 1 < (2 < 3) ^= 4;");
        wrong(1, "grows (1 < 2 ^< 3);");
        wrong(1, "grows 1^);");
        wrong(1, "grows (1^;");
        wrong(1, "grows (1 + 2) ^);");
        wrong(1, "grows (^);");
        wrong(1, "grows not ^;");
        wrong(1, "grows (1^");
        wrong(1, "grows 1 ^grows 2;");
    }

    private static void depth() {
        fine("grows ((((1))));");
        fine("grows not not not not 1;");
        fine("eases not(not(1))+((((has))));");
        wrong(5, "grows (((((^1)))));");
        wrong(5, "grows not not not not not ^has;");
        wrong(5, "grows not not not not not ^not 1;");
        wrong(5, "grows not(not((^(1))));");
        wrong(5, "grows (((((^(1))))));");
        wrong(1, "grows (((((^)))));");
        wrong(1, "grows (((((^ann)))));");
        wrong(1, "grows not not not not not ^;");
        wrong(5, "eases 1 + ((1) + ((((^1)))));");
        fine("eases ((((1)))) + ((((2)))) * not (not (3));");
        wrong(5, "eases 1 * not (not (not ^3));");
    }

    private static void allStays() {
        VoteAgainst x = Check.told("person a plain age 1 envy 1;bar 3;");
        Check.due("day()", x.day(), 0);
        Check.due("hear", x.hear(3, true), true);
        Check.due("years", Check.years(x, "day;"), 0);
        Check.due("mark", x.mark(2, false), true);
        Check.due("mark", x.mark(0, false), true);
        String text = "person z plain age 1 envy 1;person y hot age 2 envy 2;bar 4;dead lapse;ties young;";
        Check.due("a fault", Check.republic(x, text + "bar 5;"), Check.fault(3, text.length()));
        int[] want = {1, 3, 0, 0, 1, 1, 1, 0, 0, 1, 1, 1, 0};
        for (int what = 0; what < want.length; what++) {
            Check.due("behind a fault count(" + what + ")", x.count(what), want[what]);
        }
        Check.due("the name stays", Check.years(x, "die a;"), 0);
        Check.due("mark", x.mark(2, true), true);
        Check.due("day()", x.day(), 0);
        Check.due("republic", Check.republic(x, "person b plain age 1 envy 1;person a hot age 1 envy 1;"), 0);
        int[] then = {2, 7, 0, 0, 0, 3, 2, 0, 0, 0, 0, 0, 0};
        for (int what = 0; what < then.length; what++) {
            Check.due("of a new one count(" + what + ")", x.count(what), then[what]);
        }
        Check.due("undo()", x.undo(), false);
        Check.due("mark(2, true)", x.mark(2, true), false);
        Check.due("mark(0, true)", x.mark(0, true), false);
        x.cast(0, 1);
        Check.due("the same once more", Check.republic(x, "person b plain age 1 envy 1;person a hot age 1 envy 1;"), 0);
        Check.due("none cast", x.against(0, 1) + x.count(8), 0);
        Check.due("one vote", x.person(0, 3), 1);
        Check.due("bars(0)", x.bars(0), 9);
        Check.due("an empty one", x.republic(), 0);
        Check.due("nobody", x.count(0), 0);
        Check.due("bar 7", x.count(1), 7);
    }
}
