/** Promise 15: the years, from the beginning. */
public final class JudgedTest {
    private static final String THREE = "person a plain age 30 envy 4;person b hot age 20 envy 5;person c hermit age 10 envy 9;"
        + "heir a b;grudge b a 4;";

    public static void main(String[] args) {
        judged("", -1, -1, 0);
        judged("tax;", -1, -1, 0);
        judged("day;", -1, -1, 0);
        judged("tax;day;", -1, 1, 1);
        judged("gift a b;tax;day;", -1, -1, 0);
        judged("gift b a;tax;day;", -1, 2, 1);
        judged("cast b a;cast a b;tax;", 2, 0, 2);
        judged("cast b a;cast b c;", 1, 0, 1);
        judged("gift a b;die a;gift a b;gift b a;", 2, 1, 1);
        judged("die a;die a;die b;die c;", 1, 0, -1);
        judged("die c;die b;die a;", -1, 2, -1);
        judged("die c;die b;die a;tax;day;", 3, 2, -1);
        judged("cast a b;cast a c;die b;", 1, -1, 0);
        judged("die a;cast b c;cast b c;cast b c;", 3, 0, 1);
        fromTheBeginning();
        others();
        Check.end();
    }

    private static void judged(String years, int impossible, int turning, int governor) {
        VoteAgainst x = Check.told(THREE);
        Check.due("years " + years, Check.years(x, years), 0);
        due(x, years, impossible, turning, governor);
        due(x, "again " + years, impossible, turning, governor);
    }

    private static void due(VoteAgainst x, String what, int impossible, int turning, int governor) {
        Check.due("judged(0) of " + what, x.judged(0), impossible);
        Check.due("judged(1) of " + what, x.judged(1), turning);
        Check.due("judged(2) of " + what, x.judged(2), governor);
    }

    private static void fromTheBeginning() {
        VoteAgainst x = Check.told(THREE);
        Check.years(x, "cast b a;die c;");
        x.die(1);
        x.die(0);
        due(x, "how it was told", -1, 0, 1);
        Check.due("it is as ahead", x.count(5), 4);
        Check.due("who governs now", x.governs(), 2);
    }

    private static void others() {
        VoteAgainst x = Check.told(THREE);
        Check.due("judged(3)", x.judged(3), -2);
        Check.due("judged(-1)", x.judged(-1), -2);
        Check.due("judged(-2)", x.judged(Integer.MIN_VALUE), -2);
        VoteAgainst nobody = new VoteAgainst();
        Check.years(nobody, "day;tax;day;");
        due(nobody, "nobody", 1, -1, -1);
    }
}
