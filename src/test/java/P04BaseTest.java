/** Promise 4: base. */
public final class P04BaseTest {
    public static void main(String[] args) {
        Sheet s = new Sheet();
        s.due("base(-1) of nothing", s.x.base(-1), 1);
        s.due("base(0) of nothing", s.x.base(0), Sheet.BAD);
        s.address("a:/b/c");
        s.address("d:/e/f");
        s.x.label(1);
        s.text("t", 0);
        s.due("base(0)", s.x.base(0), 1);
        s.dueResolved("x", "a:/b/x");
        s.due("base(1)", s.x.base(1), 1);
        s.dueResolved("x", "d:/e/x");
        int[] wrong = {2, 3, 6, -2, 60, 61, Integer.MIN_VALUE, Integer.MAX_VALUE};
        for (int term : wrong) {
            s.due("base(" + term + ")", s.x.base(term), Sheet.BAD);
            s.dueResolved("x", "d:/e/x");
        }
        s.due("base(-1)", s.x.base(-1), 1);
        s.due("no base", s.address("x"), Sheet.NO);
        s.due("base of a resolved one", s.x.base(4), 1);
        s.dueResolved("y/..", "a:/b/");
        s.end();
    }
}
