/** Promises 22 to 24: what is heard, the bars by which it is so, which grudge tells most. */
public final class QuietTest {
    public static void main(String[] args) {
        VoteAgainst x = new VoteAgainst();
        due(x, 9, 1, 9, 4);
        Check.due("hear(10, true)", x.hear(10, true), false);
        Check.due("hear(-1, false)", x.hear(-1, false), false);
        Check.due("hear of the greatest", x.hear(Integer.MAX_VALUE, true), false);
        Check.due("none is there", x.count(10), 0);
        Check.due("hear(3, false)", x.hear(3, false), true);
        due(x, 6, 4, 9, 6);
        Check.due("hear(8, true)", x.hear(8, true), true);
        due(x, 5, 4, 8, 5);
        Check.due("hear(9, true)", x.hear(9, true), true);
        due(x, 5, 4, 8, 5);
        Check.due("hear(5, true)", x.hear(5, true), true);
        due(x, 2, 4, 5, 4);
        Check.due("hear(4, false)", x.hear(4, false), true);
        due(x, 1, 5, 5, -1);
        Check.due("hear(0, false)", x.hear(0, false), true);
        Check.due("hear(4, true)", x.hear(4, true), true);
        due(x, 0, -1, -1, -1);
        Check.due("hear(9, false), the 8th", x.hear(9, false), true);
        Check.due("count(10)", x.count(10), 8);
        Check.due("8 there are", x.hear(1, true), false);
        Check.due("count(10)", x.count(10), 8);
        Check.due("bars(3)", new VoteAgainst().bars(3), -1);
        Check.due("bars(-1)", new VoteAgainst().bars(-1), -1);
        VoteAgainst none = new VoteAgainst();
        none.hear(0, true);
        due(none, 0, -1, -1, -1);
        VoteAgainst high = new VoteAgainst();
        high.hear(9, false);
        due(high, 0, -1, -1, -1);
        VoteAgainst low = new VoteAgainst();
        low.hear(1, true);
        due(low, 1, 1, 1, -1);
        VoteAgainst top = new VoteAgainst();
        top.hear(8, false);
        due(top, 1, 9, 9, -1);
        Check.end();
    }

    private static void due(VoteAgainst x, int number, int least, int greatest, int ask) {
        Check.due("bars(0)", x.bars(0), number);
        Check.due("bars(1)", x.bars(1), least);
        Check.due("bars(2)", x.bars(2), greatest);
        Check.due("ask()", x.ask(), ask);
    }
}
