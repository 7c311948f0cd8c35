/** Promise 1: nobody, bar 7. */
public final class NewObjectTest {
    public static void main(String[] args) {
        VoteAgainst x = new VoteAgainst();
        for (int what = 0; what <= 12; what++) {
            Check.due("count(" + what + ")", x.count(what), what == 1 ? 7 : 0);
        }
        Check.due("governs()", x.governs(), VoteAgainst.NONE);
        Check.due("person(0, 0)", x.person(0, 0), -2);
        Check.due("undo()", x.undo(), false);
        Check.due("mark(0, true)", x.mark(0, true), false);
        Check.due("NONE", VoteAgainst.NONE, -1);
        Check.end();
    }
}
