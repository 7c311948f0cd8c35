/** Promise 2: signs come behind the tape, the highest byte first; others and what is beyond 1,000 are left out. */
public final class FeedTest {
    public static void main(String[] args) {
        order();
        others();
        room();
        Check.end();
    }

    private static void order() {
        VoteAgainst x = new VoteAgainst();
        // "bar 3;" in three parts: a, then b, then c.
        Check.due("feed of bar 3;", x.feed(0x6261L, 0x7220_0000_0000_0000L, 0x33003bL), 6);
        Check.due("count(12)", x.count(12), 6);
        Check.due("republic()", x.republic(), 0);
        Check.due("the bar", x.count(1), 3);
        Check.due("what reads the tape takes it", x.count(12), 0);
        Check.due("feed of nothing", x.feed(0, 0, 0), 0);
        Check.due("feed of a", x.feed(0x61, 0, 0), 1);
        Check.due("feed of b behind it", x.feed(0, 0, 0x62), 2);
        Check.due("years()", x.years(), Check.fault(1, 0));
        Check.due("what finds a fault takes it, too", x.count(12), 0);
    }

    private static void others() {
        VoteAgainst x = new VoteAgainst();
        int signs = 0;
        for (int sign = 0; sign < 256; sign++) {
            signs += sign == 10 || sign >= 32 && sign <= 126 ? 1 : 0;
            Check.due("feed of sign " + sign, x.feed(0, (long) sign << 56, 0), signs);
        }
        Check.due("of negative numbers", new VoteAgainst().feed(-1, 0xff41ff42ff43ff7fL, Long.MIN_VALUE), 3);
    }

    private static void room() {
        VoteAgainst x = new VoteAgainst();
        String blanks = " ".repeat(984);
        Check.due("feed of 984", Check.feed(x, blanks), 984);
        long eight = 0x2020202020202020L;
        Check.due("feed of 8", x.feed(eight, 0, 0), 992);
        Check.due("feed of 24, 8 of which fit", x.feed(0x6261722033202020L, eight, eight), 1000);
        Check.due("feed of one too many", x.feed(';', 0, 0), 1000);
        Check.due("its fault is at the end", x.republic(), Check.fault(1, 1000));
        Check.feed(x, " ".repeat(994));
        Check.due("feed of 6", x.feed(0x62617220353bL, 0, 0), 1000);
        Check.due("a full tape is read", x.republic(), 0);
        Check.due("the bar", x.count(1), 5);
    }
}
