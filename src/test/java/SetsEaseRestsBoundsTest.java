import java.util.NoSuchElementException;

/** The document's bounds of sets, of pairs at ease and of threats at rest, sentence by sentence: promises 25 to 27. */
public final class SetsEaseRestsBoundsTest {
    private static final String THREE = Check.people(3, "plain");
    private static final int[] NOBODY = {-1, 3, 6, 7, 8, 31, 32, 33, 64, Integer.MIN_VALUE, Integer.MAX_VALUE};
    private static final int[] OTHERS = {-1, 10, -2, 11, Integer.MIN_VALUE, Integer.MAX_VALUE};
    private static final int THROWN = -99;

    public static void main(String[] args) {
        setsOfThoseWhoHaveVotes();
        setsWithoutBoth();
        setsNone();
        setsOfSeven();
        easeHaveVotes();
        easeGreatest();
        easeAboveZero();
        easeMost();
        restsOfAll();
        restsKeeps();
        restsCasts();
        restsLoses();
        restsNoneSuch();
        Check.end();
    }

    private static void due(VoteAgainst x, String when, int against, int governor, int number, int all, int some) {
        Check.due(when + ": how many", x.sets(against, governor, 0), number);
        Check.due(when + ": in all", x.sets(against, governor, 1), all);
        Check.due(when + ": in some", x.sets(against, governor, 2), some);
    }

    private static void setsOfThoseWhoHaveVotes() {
        Check.says("SETS of those alive who have votes, without X and Y: each casts one vote against X: by which Y GOVERNS");
        VoteAgainst x = Check.told(Check.people(5, "saint") + "heir e d;");
        due(x, "b by c, d, e", 0, 1, 7, 0, 4 + 8 + 16);
        x.cast(2, 3);
        due(x, "c has no votes", 0, 1, 3, 0, 8 + 16);
        x.die(4);
        due(x, "e is dead", 0, 1, 1, 8, 8);
        x.cast(3, 4);
        Check.due("a dead one takes none", x.person(3, 3), 2);
        x.cast(3, 1);
        // Against them 0, 1, 0, 1; b and d have a vote each: c governs by one of them or both, b by none.
        due(x, "b by no set", 0, 1, 0, -1, -1);
        due(x, "c by b or d", 0, 2, 3, 0, 2 + 8);
        VoteAgainst two = Check.told(Check.people(4, "plain") + "heir d c;");
        two.die(3);
        two.cast(0, 1);
        // Against them 0, 1, 0: b would need two against a, of which c, who has two, casts one.
        due(two, "one vote of two", 0, 1, 0, -1, -1);
    }

    private static void setsWithoutBoth() {
        Check.says("without X and Y");
        VoteAgainst two = Check.told(Check.people(2, "plain"));
        due(two, "the empty set", 1, 0, 1, 0, 0);
        due(two, "not by b himself", 0, 1, 0, -1, -1);
        VoteAgainst three = Check.told(THREE);
        due(three, "c alone", 0, 1, 1, 4, 4);
        due(three, "against b, by c or nobody", 1, 0, 2, 0, 4);
    }

    private static void setsNone() {
        Check.says("2: in some (bits); NONE: others, the same, not alive, no set (but 0).");
        VoteAgainst x = Check.told(THREE);
        for (int what = 0; what < 3; what++) {
            for (int nobody : NOBODY) {
                Check.due("sets(" + nobody + ", 0, " + what + ")", x.sets(nobody, 0, what), -1);
                Check.due("sets(0, " + nobody + ", " + what + ")", x.sets(0, nobody, what), -1);
            }
            Check.due("the same", x.sets(0, 0, what), -1);
            Check.due("the same", x.sets(2, 2, what), -1);
        }
        for (int what : new int[] {-1, 3, Integer.MIN_VALUE, Integer.MAX_VALUE}) {
            Check.due("sets(1, 0, " + what + ")", x.sets(1, 0, what), -1);
        }
        due(x, "no set", 0, 2, 0, -1, -1);
        x.die(1);
        due(x, "X is not alive", 1, 0, -1, -1, -1);
        due(x, "Y is not alive", 0, 1, -1, -1, -1);
        Check.due("at first", new VoteAgainst().sets(0, 1, 0), -1);
    }

    private static void setsOfSeven() {
        Check.says("how many; those in all, in some (bits).");
        VoteAgainst x = Check.told(Check.people(7, "plain"));
        due(x, "all sets", 6, 0, 32, 0, 62);
        due(x, "all but the empty one", 0, 1, 31, 0, 124);
        x.cast(0, 1);
        x.cast(1, 0);
        // Against a and b one each: c governs; by one against c it is d.
        due(x, "all but the empty one of e, f, g", 2, 3, 7, 0, 16 + 32 + 64);
        VoteAgainst first = Check.told(THREE);
        first.cast(2, 0);
        due(first, "a alone", 1, 2, 1, 1, 1);
        String before = Check.seen(x);
        x.sets(2, 3, 0);
        Check.due("all is as ahead", Check.seen(x).equals(before), true);
    }

    private static void easeHaveVotes() {
        Check.says("EASE: pairs (alive) that have votes, both");
        Check.due("at first", new VoteAgainst().ease(), 0);
        Check.due("one alone", Check.told(Check.people(1, "plain")).ease(), 0);
        VoteAgainst x = Check.told(Check.people(4, "saint") + "grudge a b 1;grudge b a 1;grudge c d 9;grudge d c 9;heir d c;");
        Check.due("two", x.ease(), 2);
        x.cast(1, 3);
        Check.due("b has no votes", x.ease(), 1);
        x.undo();
        x.cast(0, 3);
        Check.due("a has no votes", x.ease(), 1);
        x.die(3);
        Check.due("d is dead", x.ease(), 0);
    }

    private static void easeGreatest() {
        Check.says("are the greatest ones of both (of equal ones the first)");
        Check.due("c's greatest one is the first of equal ones", Check.told(THREE + "grudge c a 5;grudge c b 5;grudge b c 5;").ease(), 0);
        Check.due("that one", Check.told(THREE + "grudge c a 5;grudge c b 5;grudge a c 5;").ease(), 1);
        Check.due("by one more", Check.told(THREE + "grudge c a 5;grudge c b 6;grudge b c 1;").ease(), 1);
        Check.due("of one alone", Check.told(THREE + "grudge a b 5;grudge b a 5;grudge b c 6;").ease(), 0);
    }

    private static void easeAboveZero() {
        Check.says("and above 0.");
        Check.due("0 and 0", Check.told(Check.people(2, "plain")).ease(), 0);
        Check.due("1 and 0", Check.told(Check.people(2, "plain") + "grudge a b 1;").ease(), 0);
        Check.due("0 and 1", Check.told(Check.people(2, "plain") + "grudge b a 1;").ease(), 0);
        Check.due("1 and 1", Check.told(Check.people(2, "plain") + "grudge a b 1;grudge b a 1;").ease(), 1);
        Check.due("9 and 9", Check.told(Check.people(2, "plain") + "grudge a b 9;grudge b a 9;").ease(), 1);
    }

    private static void easeMost() {
        Check.says("EASE, how many.");
        Check.due("three of seven", Check.told(Check.people(7, "plain") + "grudge a g 1;grudge g a 1;grudge b f 2;grudge f b 2;"
            + "grudge c e 3;grudge e c 3;grudge d a 9;").ease(), 3);
    }

    private static int answer(int keeps, int casts, int loses, int what) {
        try {
            return new VoteAgainst().rests(keeps, casts, loses, what);
        } catch (NoSuchElementException e) {
            return THROWN;
        }
    }

    /** If one casts, the other one loses the same whatever he does: so both cast at rest; both keep if that is no less than casting. */
    private static void restsOfAll() {
        Check.says("RESTS: by which neither would get more by the other.");
        for (int keeps = 0; keeps <= 9; keeps++) {
            for (int casts = 0; casts <= 9; casts++) {
                for (int loses = 0; loses <= 9; loses++) {
                    String call = "rests(" + keeps + ", " + casts + ", " + loses + ", ";
                    int number = keeps > casts ? 2 : keeps == casts ? 4 : 3;
                    Check.due(call + "-1)", answer(keeps, casts, loses, -1), number);
                    for (int what = 0; what < number; what++) {
                        int want = number == 2 ? 3 * what : number == 3 ? what + 1 : what;
                        Check.due(call + what + ")", answer(keeps, casts, loses, what), want);
                    }
                    Check.due(call + number + ")", answer(keeps, casts, loses, number), THROWN);
                }
            }
        }
    }

    private static void restsKeeps() {
        Check.says("both keep: each gets so much (0 to 9)");
        Check.due("0", answer(0, 0, 0, -1), 4);
        Check.due("9", answer(9, 0, 0, -1), 2);
        for (int other : OTHERS) {
            for (int what = -1; what < 4; what++) {
                Check.due("keeps " + other + ", what " + what, answer(other, 5, 5, what), THROWN);
            }
        }
    }

    private static void restsCasts() {
        Check.says("one casts: he gets so much (0 to 9)");
        Check.due("0", answer(1, 0, 0, -1), 2);
        Check.due("9", answer(1, 9, 0, -1), 3);
        for (int other : OTHERS) {
            for (int what = -1; what < 4; what++) {
                Check.due("casts " + other + ", what " + what, answer(5, other, 5, what), THROWN);
            }
        }
    }

    private static void restsLoses() {
        Check.says("the other one loses so much (0 to 9); both cast: each loses that");
        Check.due("0", answer(1, 1, 0, -1), 4);
        Check.due("9", answer(1, 1, 9, -1), 4);
        for (int other : OTHERS) {
            for (int what = -1; what < 4; what++) {
                Check.due("loses " + other + ", what " + what, answer(5, 5, other, what), THROWN);
            }
        }
    }

    private static void restsNoneSuch() {
        Check.says("i: the i-th as 2 * the first one's choice + the other one's (1 casts; the least first). NoSuchElementException: others, none such.");
        for (int what : new int[] {-2, -3, 4, 5, Integer.MIN_VALUE, Integer.MAX_VALUE}) {
            Check.due("what " + what, answer(5, 5, 5, what), THROWN);
        }
        Check.due("the first", answer(5, 5, 5, 0), 0);
        Check.due("the last", answer(5, 5, 5, 3), 3);
        VoteAgainst x = Check.told(THREE);
        x.day();
        String before = Check.seen(x);
        int thrown = 0;
        try {
            x.rests(10, 0, 0, 0);
        } catch (NoSuchElementException e) {
            thrown = 1;
        }
        Check.due("it is thrown", thrown, 1);
        Check.due("all is as ahead", Check.seen(x).equals(before), true);
    }
}
