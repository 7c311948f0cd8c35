/** Promise 30: marks hold how it is, the years, what is quiet. */
public final class MarkTest {
    public static void main(String[] args) {
        VoteAgainst x = Check.told("person a plain age 3 envy 1;person b plain age 2 envy 1;person c plain age 1 envy 1;heir a b;");
        Check.due("nothing is on it", x.mark(0, true), false);
        Check.due("mark(0, false)", x.mark(0, false), true);
        Check.due("mark(4, false)", x.mark(4, false), false);
        Check.due("mark(-1, false)", x.mark(-1, false), false);
        Check.due("mark(4, true)", x.mark(4, true), false);
        Check.due("mark of the least", x.mark(Integer.MIN_VALUE, true), false);
        x.tax();
        x.cast(1, 2);
        x.die(0);
        x.day();
        x.hear(5, true);
        Check.years(x, "day;tax;");
        Check.due("mark(3, false)", x.mark(3, false), true);
        x.die(1);
        x.hear(4, false);
        Check.years(x, "");
        x.undo();
        Check.due("count(11)", x.count(11), 4);

        Check.due("mark(3, true)", x.mark(3, true), true);
        due(x, new int[] {3, 7, 0, 0, 1, 6, 2, 0, 1, 2, 1, 0, 0});
        Check.due("bars(2)", x.bars(2), 5);
        Check.due("bars(0)", x.bars(0), 5);
        Check.due("judged(0)", x.judged(0), -1);
        Check.due("nothing can be undone", x.undo(), false);
        x.day();

        Check.due("mark(0, true)", x.mark(0, true), true);
        due(x, new int[] {3, 7, 0, 0, 0, 7, 3, 0, 0, 0, 0, 0, 0});
        Check.due("grudge(1, 0)", x.grudge(1, 0), 0);
        Check.due("bars(0)", x.bars(0), 9);
        x.day();
        Check.due("it is there yet", x.mark(0, true), true);
        Check.due("day 0", x.count(4), 0);
        x.day();
        Check.due("it is laid anew", x.mark(0, false), true);
        Check.due("what can be undone stays", x.count(11), 1);
        x.day();
        Check.due("mark(0, true)", x.mark(0, true), true);
        Check.due("day 1", x.count(4), 1);
        Check.due("the other one", x.mark(3, true), true);
        Check.due("alive", x.count(5), 6);
        Check.due("mark(1, true)", x.mark(1, true), false);
        Check.feed(x, "bar");
        Check.due("a mark leaves the tape", x.mark(3, true), true);
        Check.due("count(12)", x.count(12), 3);
        Check.end();
    }

    private static void due(VoteAgainst x, int[] want) {
        for (int what = 0; what < want.length; what++) {
            Check.due("count(" + what + ")", x.count(what), want[what]);
        }
    }
}
