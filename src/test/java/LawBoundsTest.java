/** The document's bounds of the laws of how grudges grow and are eased, sentence by sentence. */
public final class LawBoundsTest {
    // 2147483648, which wraps to the least int.
    private static final String LEAST = "8192*8192*32";

    public static void main(String[] args) {
        atLeastOneTest();
        oneComparison();
        sumsAndProducts();
        depth();
        notOfAPart();
        tooDeep();
        whatIsNotZero();
        wraps();
        withoutLaws();
        growsCut();
        easesCut();
        has();
        jealous();
        years();
        known();
        Check.end();
    }

    /** The grudge of b (envy 1, age 8), of this one against a, who governs without a vote against him, behind a tax. */
    private static int grown(int grudge, String law) {
        VoteAgainst x = Check.told(Check.people(2, "plain") + "grudge b a " + grudge + ";grows " + law + ";");
        int grew = x.tax();
        int then = x.grudge(1, 0);
        Check.due("tax by " + law, grew, then > grudge ? 1 : 0);
        return then;
    }

    /** The same one's grudge behind a gift of a's. */
    private static int eased(int grudge, String law) {
        VoteAgainst x = Check.told(Check.people(2, "plain") + "grudge b a " + grudge + ";eases " + law + ";");
        int answer = x.gift(0, 1);
        Check.due("gift by " + law, answer, x.grudge(1, 0));
        return answer;
    }

    private static void atLeastOneTest() {
        Check.says("E: TEST { and TEST or or TEST }, from the left");
        Check.wrongRepublic(1, "grows ^;");
        Check.wrongRepublic(1, "grows ^and 1;");
        Check.wrongRepublic(1, "grows 1 or ^;");
        Check.due("one", grown(0, "1"), 1);
        Check.due("from the left", grown(0, "1 or 1 and 0"), 0);
        Check.due("from the left", grown(0, "0 and 0 or 1"), 1);
    }

    private static void oneComparison() {
        Check.says("TEST: SUM, or SUM < SUM, or SUM = SUM");
        Check.wrongRepublic(1, "grows 1 < 2 ^< 3;");
        Check.wrongRepublic(1, "grows 1 = 1 ^= 1;");
        Check.wrongRepublic(1, "grows 1 < 2 ^= 3;");
        Check.wrongRepublic(1, "grows 1 and 2 < 3 + 4 * 5 ^< 6;");
        Check.wrongRepublic(1, "grows (1 < 2 ^< 3);");
        Check.wrongRepublic(1, "grows 1 <^= 2;");
        Check.due("less", grown(0, "1 < 2"), 1);
        Check.due("not less", grown(0, "2 < 2"), 0);
        Check.due("the same", grown(0, "2 = 2"), 1);
        Check.due("not the same", grown(0, "2 = 3"), 0);
        Check.due("one in each test", grown(0, "1 < 2 and 3 = 3"), 1);
        Check.due("one within another", grown(0, "(1 < 2) < 3"), 1);
    }

    private static void sumsAndProducts() {
        Check.says("SUM: PRODUCT { + or - PRODUCT }; PRODUCT: PART { * PART }");
        for (String operator : new String[] {"+", "-", "*"}) {
            Check.wrongRepublic(1, "grows ^" + operator + "1;");
            Check.wrongRepublic(1, "grows 1" + operator + "^;");
            Check.wrongRepublic(1, "grows 1" + operator + "^" + operator + "1;");
            Check.wrongRepublic(1, "grows 1" + operator + "^");
        }
        Check.due("from the left", grown(0, "9-3-2"), 4);
        Check.due("products first", grown(0, "9-2*3+1"), 4);
        String ones = "+1".repeat(450);
        Check.due("as many as there is room for", grown(0, "0" + ones + "-447"), 3);
    }

    private static void depth() {
        Check.says("no PART lies within 5 of not and ( )");
        Check.due("within 4 brackets", grown(0, "((((3))))"), 3);
        Check.due("within 4 nots", grown(0, "not not not not 3"), 1);
        Check.due("within 2 of each", grown(0, "not(not(3))"), 1);
        Check.due("one behind another", grown(0, "((((1))))+((((1))))*((((3))))-not not not not 5"), 3);
        Check.due("nots behind one another", grown(0, "not not not not 1+not not not not 1+((((1))))"), 3);
        Check.due("both behind one another", grown(0, "not(not(1))+not(not(1))+not not not not 1"), 3);
        Check.due("of eases", eased(9, "((((3))))"), 6);
        for (String part : new String[] {"1", "has", "not 1", "(1)", "not", "("}) {
            Check.wrongRepublic(5, "grows (((((^" + part + ")))));");
            Check.wrongRepublic(5, "grows not not not not not ^" + part + ";");
            Check.wrongRepublic(5, "grows (not(not(^" + part + "))));");
            Check.wrongRepublic(5, "eases 1*((1)+(((not ^" + part + "))));");
        }
    }

    private static void notOfAPart() {
        Check.says("PART: a NUMBER, a fact, not PART, ( E )");
        Check.due("not of a number alone", grown(0, "not 0+2"), 3);
        Check.due("not of brackets alone", grown(0, "not(0)+2"), 3);
        Check.due("not of a product's first part", grown(0, "not 0*3"), 3);
        Check.due("not of a sum's last part", grown(0, "2+not 0"), 3);
        Check.due("brackets first", grown(0, "(1+2)*3"), 9);
        Check.wrongRepublic(1, "grows (1^;");
        Check.wrongRepublic(1, "grows ((1)^;");
        Check.wrongRepublic(1, "grows (1)^);");
        Check.wrongRepublic(1, "grows (^);");
        Check.wrongRepublic(1, "grows ^);");
        Check.wrongRepublic(1, "grows not^;");
        Check.wrongRepublic(1, "grows 1 ^not 1;");
        Check.wrongRepublic(1, "grows ^-1;");
        VoteAgainst x = new VoteAgainst();
        for (String open : new String[] {"grows ((((", "grows not not not not ", "grows 1 and 1<1+1*", "eases 1 + not ("}) {
            Check.due("a fault of " + open, Check.republic(x, open), Check.fault(1, open.length()));
            Check.due("the next law is whole", Check.republic(x, Check.people(2, "plain") + "grows ((((3))));"), 0);
            x.tax();
            Check.due("grudge behind " + open, x.grudge(1, 0), 3);
        }
    }

    private static void tooDeep() {
        Check.says("not, or a PART, within 5 others.");
        Check.wrongRepublic(5, "grows not not not not not ^not 1;");
        Check.wrongRepublic(5, "grows " + "(".repeat(5) + "^" + "(".repeat(900));
        Check.wrongRepublic(5, "grows " + "not ".repeat(5) + "^" + "not ".repeat(200));
        Check.wrongRepublic(5, "grows 1+((((1)+((^1)))));");
        Check.wrongRepublic(5, "eases ((((1<(^2)))));");
        // What can't stand there is wrong as such.
        Check.wrongRepublic(1, "grows (((((^)))));");
        Check.wrongRepublic(1, "grows (((((^+1)))));");
        Check.wrongRepublic(1, "grows not not not not not ^;");
        Check.wrongRepublic(1, "grows not not not not not ^");
    }

    private static void whatIsNotZero() {
        Check.says("Of not, and, or, < and = comes 1 or 0; what is not 0 is so");
        for (String so : new String[] {"1", "2", "9999", "(0-1)", "(" + LEAST + ")"}) {
            Check.due("not " + so, grown(0, "not " + so), 0);
            Check.due(so + " and 7", grown(0, so + " and 7"), 1);
            Check.due(so + " and 0", grown(0, so + " and 0"), 0);
            Check.due("0 or " + so, grown(0, "0 or " + so), 1);
        }
        Check.due("not 0", grown(0, "not 0"), 1);
        Check.due("0 or 0", grown(0, "0 or 0"), 0);
        for (String no : new String[] {"not 7", "(7 and 0)", "(0 and 7)", "(0 or 0)", "(7<7)", "(8<7)", "(7=8)"}) {
            Check.due(no + " is 0, no less", grown(0, "3+" + no), 3);
        }
        for (String yes : new String[] {"not 0", "(7 and 8)", "(0 or 8)", "(8 or 0)", "(7<9)", "(7=7)"}) {
            Check.due(yes + " is 1, no more", grown(0, "3+" + yes), 4);
        }
    }

    private static void wraps() {
        Check.says("ints wrap");
        Check.due("a product below the least", grown(0, LEAST + "<0"), 1);
        Check.due("a product of 2^32", grown(0, LEAST + "*2=0"), 1);
        Check.due("a product of 2^32 and 5 more", grown(0, LEAST + "*2+5"), 5);
        Check.due("a difference above the greatest", grown(0, "0<" + LEAST + "-1"), 1);
        Check.due("a sum above the greatest", grown(0, "(" + LEAST + "-1)+1<0"), 1);
        Check.due("a sum below the least", grown(0, LEAST + "+" + LEAST + "=0"), 1);
        Check.due("less is not by a difference", grown(0, LEAST + "<1"), 1);
        Check.due("less is not by a difference", grown(0, "1<" + LEAST), 0);
    }

    private static void withoutLaws() {
        Check.says("Without grows: 1, and 1 more if jealous is above 4; without eases: 2.");
        for (int envy = 0; envy <= 9; envy++) {
            VoteAgainst x = Check.told("person a plain age 9 envy 9;person b plain age 8 envy " + envy + ";");
            x.tax();
            Check.due("of envy " + envy, x.grudge(1, 0), envy > 4 ? 2 : 1);
            x.tax();
            Check.due("of envy " + envy, x.grudge(1, 0), envy > 4 ? 4 : 2);
        }
        for (int grudge = 0; grudge <= 9; grudge++) {
            VoteAgainst x = Check.told(Check.people(2, "plain") + "grudge b a " + grudge + ";");
            Check.due("a gift of " + grudge, x.gift(0, 1), Math.max(0, grudge - 2));
        }
        VoteAgainst x = Check.told(Check.people(2, "plain") + "grows 5;eases 5;");
        Check.due("a republic without laws behind one with both", Check.republic(x, Check.people(2, "plain") + "grudge b a 3;"), 0);
        x.tax();
        Check.due("1", x.grudge(1, 0), 4);
        Check.due("2", x.gift(0, 1), 2);
        Check.due("with grows alone", Check.republic(x, Check.people(2, "plain") + "grows 6;"), 0);
        x.tax();
        Check.due("6", x.grudge(1, 0), 6);
        Check.due("2", x.gift(0, 1), 4);
        for (String both : new String[] {"grows 4;eases 3;", "eases 3;grows 4;"}) {
            Check.due("with " + both, Check.republic(x, Check.people(2, "plain") + both), 0);
            x.tax();
            Check.due("4 of " + both, x.grudge(1, 0), 4);
            Check.due("3 of " + both, x.gift(0, 1), 1);
        }
        Check.due("with eases alone", Check.republic(x, Check.people(2, "plain") + "eases 6;grudge b a 7;"), 0);
        x.tax();
        Check.due("1", x.grudge(1, 0), 8);
        Check.due("6", x.gift(0, 1), 2);
    }

    private static void growsCut() {
        Check.says("is more by the E of grows (0 to 9; 9 at most)");
        for (int grudge = 0; grudge <= 9; grudge++) {
            for (int more = 0; more <= 12; more++) {
                Check.due(grudge + " and " + more, grown(grudge, "" + more), Math.min(9, grudge + more));
            }
            Check.due(grudge + ", by less than 0", grown(grudge, "0-1"), grudge);
            Check.due(grudge + ", by the least", grown(grudge, LEAST), grudge);
            Check.due(grudge + ", by the greatest", grown(grudge, LEAST + "-1"), 9);
        }
    }

    private static void easesCut() {
        Check.says("is less by the E of eases (0 to 9; 0 at least)");
        for (int grudge = 0; grudge <= 9; grudge++) {
            for (int less = 0; less <= 12; less++) {
                Check.due(grudge + " by " + less, eased(grudge, "" + less), Math.max(0, grudge - less));
            }
            Check.due(grudge + ", by less than 0", eased(grudge, "0-1"), grudge);
            Check.due(grudge + ", by the least", eased(grudge, LEAST), grudge);
            Check.due(grudge + ", by the greatest", eased(grudge, LEAST + "-1"), 0);
        }
    }

    private static void has() {
        Check.says("has (the grudge of who grudges against whom)");
        Check.due("0", grown(0, "has=0"), 1);
        Check.due("4", grown(4, "has"), 8);
        Check.due("9", eased(9, "has=9"), 8);
        VoteAgainst x = Check.told(Check.people(2, "plain") + "grudge a b 5;grows has;eases has;");
        Check.due("not of whom", x.tax(), 0);
        Check.due("of who grudges", x.gift(1, 0), 0);
    }

    private static void jealous() {
        Check.says("jealous (the envy of who grudges)");
        for (int envy = 0; envy <= 9; envy++) {
            VoteAgainst x = Check.told("person a plain age 9 envy 3;person b plain age 8 envy " + envy + ";grows jealous;eases jealous;");
            x.tax();
            Check.due("a tax of envy " + envy, x.grudge(1, 0), envy);
            Check.due("a gift of envy " + envy, x.gift(0, 1), 0);
        }
    }

    private static void years() {
        Check.says("years (his age)");
        VoteAgainst x = Check.told("person a plain age 99 envy 1;person b plain age 0 envy 1;person c plain age 98 envy 1;grudge a b 9;"
            + "grudge b a 3;grows years-93;eases years-96;");
        Check.due("of c alone", x.tax(), 1);
        Check.due("age 98", x.grudge(2, 0), 5);
        Check.due("age 0", x.grudge(1, 0), 3);
        Check.due("age 99", x.gift(1, 0), 6);
        Check.due("age 0", x.gift(0, 1), 3);
    }

    private static void known() {
        Check.says("known (votes that count against whom)");
        VoteAgainst x = Check.told(Check.people(3, "plain") + "heir c b;dead lapse;eases known;grudge b a 9;grudge a b 9;");
        Check.due("0", x.gift(0, 1), 9);
        x.cast(2, 0);
        Check.due("1, against a", x.gift(0, 1), 8);
        Check.due("0, against b", x.gift(1, 0), 9);
        x.cast(1, 0);
        Check.due("2, against a", x.gift(0, 1), 6);
        x.die(2);
        Check.due("1, as one lapses", x.gift(0, 1), 5);
    }
}
