/** Promise 4: the tape is read as years. */
public final class YearsTest {
    private static final String TWO = "person a plain age 1 envy 1;person b hot age 2 envy 2;";

    public static void main(String[] args) {
        fine("", 0);
        fine("tax;gift a b;cast b a;die a;day;", 5);
        fine("day ;\n day\n;", 2);
        fine("gift a b;gift a b;die a;die a;", 4);
        wrong(1, "^person a plain age 1 envy 1;");
        wrong(1, "^wait;");
        wrong(1, "^;");
        wrong(1, "tax ^1;");
        wrong(1, "tax ^a;");
        wrong(1, "tax^");
        wrong(1, "day ^a;");
        wrong(1, "die ^;");
        wrong(1, "die ^day;");
        wrong(2, "die ^c;");
        wrong(1, "die a ^b;");
        wrong(1, "gift ^;");
        wrong(2, "gift ^c c;");
        wrong(1, "gift a ^;");
        wrong(2, "gift a ^c;");
        wrong(3, "gift a ^a;");
        wrong(3, "cast b ^b;");
        wrong(2, "cast a ^ab;");
        wrong(1, "cast a b ^a;");
        String forty = "day;".repeat(40);
        fine(forty, 40);
        wrong(5, forty + "^day;");
        wrong(5, forty + "^gift c c;");
        wrong(1, forty + "^person;");
        wrong(1, forty + "^;");
        wrong(1, forty + "^?");
        allStays();
        Check.end();
    }

    private static void fine(String text, int lines) {
        VoteAgainst x = Check.told(TWO);
        Check.due("years of " + text, Check.years(x, text), 0);
        Check.due("lines of " + text, x.count(9), lines);
    }

    private static void wrong(int kind, String marked) {
        Check.wrongYears(kind, TWO, marked);
    }

    private static void allStays() {
        VoteAgainst x = Check.told(TWO);
        Check.due("years", Check.years(x, "die b;die b;"), 0);
        Check.due("a fault", Check.years(x, "tax;tax;tax;c;"), Check.fault(1, 12));
        Check.due("count(9)", x.count(9), 2);
        Check.due("judged(0)", x.judged(0), 1);
        Check.due("day()", x.day(), 0);
        Check.due("others", Check.years(x, "day;"), 0);
        Check.due("count(9)", x.count(9), 1);
        Check.due("what can be undone stays", x.count(11), 1);
        Check.due("of nobody", Check.years(new VoteAgainst(), "tax;day;die a;"), Check.fault(2, 12));
    }
}
