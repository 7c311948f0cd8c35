/** The document's bounds of marks, sentence by sentence: promise 30. */
public final class MarkBoundsTest {
    private static final String THREE = Check.people(3, "plain");

    public static void main(String[] args) {
        fourMarks();
        noneSuch();
        nothingOnIt();
        hold();
        holdWhatIsQuiet();
        nothingCanBeUndone();
        fullPast();
        noMarkIsThere();
        Check.end();
    }

    private static void fourMarks() {
        Check.says("MARKS 0 to 3");
        VoteAgainst x = Check.told(THREE);
        for (int mark = 0; mark < 4; mark++) {
            Check.due("mark " + mark, x.mark(mark, false), true);
            x.day();
        }
        for (int mark = 3; mark >= 0; mark--) {
            Check.due("back to " + mark, x.mark(mark, true), true);
            Check.due("its day", x.count(4), mark);
        }
    }

    private static void noneSuch() {
        Check.says("false: none such, nothing is on it (back).");
        VoteAgainst x = Check.told(THREE);
        for (int mark = 0; mark < 4; mark++) {
            x.mark(mark, false);
        }
        x.day();
        for (int mark : new int[] {-1, 4, 5, -4, Integer.MIN_VALUE, Integer.MAX_VALUE}) {
            Check.due("mark(" + mark + ", false)", x.mark(mark, false), false);
            Check.due("mark(" + mark + ", true)", x.mark(mark, true), false);
        }
        Check.due("the day stays", x.count(4), 1);
        Check.due("what can be undone stays", x.count(11), 1);
        for (int mark = 0; mark < 4; mark++) {
            Check.due("they are as they were", x.mark(mark, true), true);
            Check.due("day 0", x.count(4), 0);
        }
    }

    private static void nothingOnIt() {
        Check.says("nothing is on it (back)");
        for (int laid = 0; laid < 4; laid++) {
            VoteAgainst x = Check.told(THREE);
            x.day();
            for (int mark = 0; mark < 4; mark++) {
                Check.due("nothing on " + mark, x.mark(mark, true), false);
            }
            Check.due("the day stays", x.count(4), 1);
            Check.due("what can be undone stays", x.count(11), 1);
            x.mark(laid, false);
            for (int mark = 0; mark < 4; mark++) {
                Check.due(laid + " is laid, back to " + mark, x.mark(mark, true), mark == laid);
            }
        }
        VoteAgainst first = new VoteAgainst();
        Check.due("at first", first.mark(0, true), false);
        Check.due("of nobody it is laid", first.mark(0, false), true);
        Check.due("and gone back to", first.mark(0, true), true);
    }

    private static void hold() {
        Check.says("hold how it is, the YEARS, what is QUIET");
        VoteAgainst x = Check.told(THREE + "grudge a b 9;grudge b a 3;heir c a;");
        x.tax();
        x.die(2);
        x.day();
        Check.years(x, "day;".repeat(40));
        for (int heard = 0; heard < 8; heard++) {
            x.hear(heard, false);
        }
        x.mark(2, false);
        x.mark(2, true);
        String before = Check.seen(x);
        x.tax();
        x.cast(1, 0);
        x.die(1);
        x.day();
        Check.years(x, "die c;");
        x.mark(1, false);
        Check.due("what is quiet is full on it", x.hear(9, true), false);
        Check.due("back", x.mark(2, true), true);
        Check.due("all is as it was", Check.seen(x).equals(before), true);
        Check.due("the other one", x.mark(1, true), true);
        Check.due("its years", x.count(9), 1);
        Check.due("its alive", x.count(5), 1);
        x.mark(2, true);
        Check.due("once more", x.count(9), 40);
        Check.due("it is not eased by what was behind it", x.hear(9, true), false);
    }

    private static void holdWhatIsQuiet() {
        Check.says("the YEARS, what is QUIET");
        VoteAgainst x = Check.told(THREE);
        x.mark(0, false);
        x.hear(3, false);
        x.mark(1, false);
        x.hear(5, true);
        due(x, "now", 2, 4, 5);
        x.mark(1, true);
        due(x, "mark 1", 1, 4, 9);
        x.mark(0, true);
        due(x, "mark 0", 0, 1, 9);
        x.mark(1, true);
        due(x, "mark 1 again", 1, 4, 9);
        for (int heard = 1; heard < 8; heard++) {
            Check.due("there is room", x.hear(9, true), true);
        }
        Check.due("then there is none", x.hear(9, true), false);
    }

    private static void due(VoteAgainst x, String when, int heard, int least, int greatest) {
        Check.due(when + ": heard", x.count(10), heard);
        Check.due(when + ": the least bar", x.bars(1), least);
        Check.due(when + ": the greatest bar", x.bars(2), greatest);
    }

    private static void nothingCanBeUndone() {
        Check.says("(nothing can be undone when one is gone back to)");
        VoteAgainst x = Check.told(THREE);
        x.day();
        x.mark(0, false);
        Check.due("a mark that is laid leaves it", x.count(11), 1);
        x.day();
        Check.due("two", x.count(11), 2);
        x.mark(0, true);
        Check.due("none", x.count(11), 0);
        Check.due("undo()", x.undo(), false);
        Check.due("the day of the mark", x.count(4), 1);
        x.day();
        Check.due("one", x.count(11), 1);
        Check.due("undo()", x.undo(), true);
        Check.due("the day of the mark", x.count(4), 1);
        Check.due("no more", x.undo(), false);
    }

    private static void fullPast() {
        Check.says("A MARK is laid (back: gone back to): true");
        VoteAgainst x = Check.told(THREE);
        for (int day = 0; day < 20; day++) {
            x.day();
        }
        x.mark(3, false);
        Check.due("sixteen", x.count(11), 16);
        Check.due("one is undone", x.undo(), true);
        x.mark(3, true);
        Check.due("day 20", x.count(4), 20);
        for (int day = 0; day < 18; day++) {
            x.day();
        }
        for (int i = 0; i < 16; i++) {
            Check.due("undo()", x.undo(), true);
        }
        Check.due("day 22", x.count(4), 22);
        Check.due("no more", x.undo(), false);
        x.mark(3, false);
        x.day();
        x.mark(3, true);
        Check.due("it is laid anew", x.count(4), 22);
    }

    private static void noMarkIsThere() {
        Check.says("nothing can be undone, no MARK is there.");
        VoteAgainst x = Check.told(THREE);
        for (int mark = 0; mark < 4; mark++) {
            x.mark(mark, false);
        }
        Check.due("a fault", Check.republic(x, "?"), Check.fault(1, 0));
        for (int mark = 0; mark < 4; mark++) {
            Check.due("they stay, " + mark, x.mark(mark, true), true);
        }
        Check.due("years", Check.years(x, "day;"), 0);
        Check.due("they stay", x.mark(3, true), true);
        Check.due("a republic", Check.republic(x, THREE), 0);
        for (int mark = 0; mark < 4; mark++) {
            Check.due("none is there, " + mark, x.mark(mark, true), false);
        }
    }
}
