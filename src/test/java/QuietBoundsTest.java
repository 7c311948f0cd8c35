/** The document's bounds of what is heard and which bars it leaves, sentence by sentence: promises 22 to 24. */
public final class QuietBoundsTest {
    public static void main(String[] args) {
        grudgeSoGreat();
        eightAtMost();
        refused();
        barsByWhichAllIsSo();
        barsNone();
        askLeast();
        askNone();
        ofRepublicsAndMarks();
        Check.end();
    }

    private static void due(VoteAgainst x, String when, int number, int least, int greatest) {
        Check.due(when + ": how many", x.bars(0), number);
        Check.due(when + ": the least", x.bars(1), least);
        Check.due(when + ": the greatest", x.bars(2), greatest);
    }

    private static void grudgeSoGreat() {
        Check.says("of a grudge so great (0 to 9) as the greatest one, cast, or did not");
        for (int grudge = 0; grudge <= 9; grudge++) {
            VoteAgainst cast = new VoteAgainst();
            Check.due("cast of " + grudge, cast.hear(grudge, true), true);
            due(cast, "cast of " + grudge, grudge, grudge > 0 ? 1 : -1, grudge > 0 ? grudge : -1);
            VoteAgainst kept = new VoteAgainst();
            Check.due("did not of " + grudge, kept.hear(grudge, false), true);
            due(kept, "did not of " + grudge, 9 - grudge, grudge < 9 ? grudge + 1 : -1, grudge < 9 ? 9 : -1);
        }
    }

    private static void eightAtMost() {
        Check.says("the bar being unknown; 8 at most.");
        VoteAgainst x = new VoteAgainst();
        for (int heard = 1; heard <= 8; heard++) {
            Check.due("hear " + heard, x.hear(heard, true), true);
            Check.due("there are", x.count(10), heard);
        }
        due(x, "eight", 1, 1, 1);
        Check.due("a ninth", x.hear(0, true), false);
        Check.due("eight there are", x.count(10), 8);
        due(x, "the ninth is left out", 1, 1, 1);
        VoteAgainst alike = new VoteAgainst();
        for (int heard = 1; heard <= 8; heard++) {
            Check.due("alike, too", alike.hear(5, false), true);
        }
        Check.due("a ninth alike", alike.hear(5, false), false);
        VoteAgainst last = new VoteAgainst();
        for (int heard = 1; heard < 8; heard++) {
            last.hear(9, true);
        }
        last.hear(8, false);
        due(last, "the eighth tells", 1, 9, 9);
    }

    private static void refused() {
        Check.says("QUIET: true; false: others, 8 there are.");
        VoteAgainst x = new VoteAgainst();
        for (int grudge : new int[] {-1, 10, -2, 11, 31, 32, 33, -32, Integer.MIN_VALUE, Integer.MAX_VALUE}) {
            Check.due("hear(" + grudge + ", true)", x.hear(grudge, true), false);
            Check.due("hear(" + grudge + ", false)", x.hear(grudge, false), false);
        }
        Check.due("none is there", x.count(10), 0);
        due(x, "all bars", 9, 1, 9);
        Check.due("it can't be undone", x.undo(), false);
    }

    private static void barsByWhichAllIsSo() {
        Check.says("BARS (1 to 9) by which all QUIET is so: how many, the least, the greatest");
        VoteAgainst x = new VoteAgainst();
        due(x, "nothing is heard", 9, 1, 9);
        x.hear(2, false);
        due(x, "above 2", 7, 3, 9);
        x.hear(6, true);
        due(x, "up to 6", 4, 3, 6);
        x.hear(7, true);
        due(x, "nothing new", 4, 3, 6);
        x.hear(5, false);
        due(x, "6", 1, 6, 6);
        x.hear(5, true);
        due(x, "none", 0, -1, -1);
        VoteAgainst told = Check.told(Check.people(1, "plain") + "bar 3;");
        due(told, "whatever the bar is", 9, 1, 9);
    }

    private static void barsNone() {
        Check.says("2: the greatest; NONE: others, none (but 0).");
        VoteAgainst x = new VoteAgainst();
        for (int what : new int[] {-1, 3, 4, Integer.MIN_VALUE, Integer.MAX_VALUE}) {
            Check.due("bars(" + what + ")", x.bars(what), -1);
        }
        x.hear(9, false);
        due(x, "none of 9 and kept", 0, -1, -1);
        Check.due("bars(3)", x.bars(3), -1);
        VoteAgainst low = new VoteAgainst();
        low.hear(0, true);
        due(low, "none of 0 and cast", 0, -1, -1);
    }

    private static void askLeast() {
        Check.says("ASK: the grudge (0 to 9) by which the greater number of them that would cast, or not, is the least, if it is less than all; "
            + "of equal ones the least.");
        // Of n bars in a row the lower half casts; of an odd number both halves are as good, and the lesser grudge is told.
        for (int least = 1; least <= 9; least++) {
            for (int greatest = least; greatest <= 9; greatest++) {
                VoteAgainst x = new VoteAgainst();
                Check.due("hear", x.hear(least - 1, false), true);
                Check.due("hear", x.hear(greatest, true), true);
                due(x, "bars " + least + " to " + greatest, greatest - least + 1, least, greatest);
                int want = least == greatest ? -1 : least - 1 + (greatest - least + 1) / 2;
                Check.due("ask of bars " + least + " to " + greatest, x.ask(), want);
            }
        }
        Check.due("of all nine", new VoteAgainst().ask(), 4);
    }

    private static void askNone() {
        Check.says("ASK; NONE: none parts them.");
        VoteAgainst one = new VoteAgainst();
        one.hear(1, true);
        Check.due("one bar is left", one.ask(), -1);
        one.hear(1, false);
        Check.due("no bar is left", one.ask(), -1);
        VoteAgainst two = new VoteAgainst();
        two.hear(7, false);
        Check.due("two are left", two.ask(), 8);
        two.hear(8, false);
        Check.due("the last one", two.ask(), -1);
    }

    private static void ofRepublicsAndMarks() {
        Check.says("no YEARS, no QUIET, nothing can be undone");
        VoteAgainst x = new VoteAgainst();
        for (int heard = 0; heard < 8; heard++) {
            x.hear(1, true);
        }
        Check.due("a republic's fault", Check.republic(x, "bar"), Check.fault(1, 3));
        Check.due("eight yet", x.count(10), 8);
        Check.due("a republic", x.republic(), 0);
        Check.due("none", x.count(10), 0);
        due(x, "all bars", 9, 1, 9);
        Check.due("there is room again", x.hear(1, true), true);
    }
}
