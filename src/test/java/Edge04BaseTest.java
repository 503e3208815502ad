/** Promise 4, one method a sentence. */
public final class Edge04BaseTest {
    private static final Sheet s = new Sheet();

    public static void main(String[] args) {
        addressIsTheBase();
        fromNowOn();
        none();
        noSuchTerm();
        noAddress();
        s.end();
    }

    private static void addressIsTheBase() {
        s.sentence("An address is the base from now on");
        s.address("a:/b/");
        s.due("base(0)", s.x.base(0), 1);
        s.due("base(0) again", s.x.base(0), 1);
        s.dueResolved("c", "a:/b/c");
        s.freshWithLabels(59);
        s.due("60th", s.address("z:/"), 59);
        s.due("base(59)", s.x.base(59), 1);
        s.due("resolved to itself", s.address("."), 59);
    }

    private static void fromNowOn() {
        s.sentence("from now on");
        s.address("a:/b/");
        s.address("z:/y/");
        s.x.base(0);
        s.due("the first term stays as it is", s.shown(1, 0), "<z:/y/>");
        s.dueResolved("c", "a:/b/c");
        s.dueResolved("d", "a:/b/d");
        s.x.base(1);
        s.dueResolved("c", "z:/y/c");
        s.x.base(4);
        s.dueResolved("e/f", "z:/y/e/f");
    }

    private static void none() {
        s.sentence("or none is (-1): 1");
        s.due("none of none", s.x.base(-1), 1);
        s.freshWithBase("a:b");
        s.due("base(-1)", s.x.base(-1), 1);
        s.due("no base", s.address("c"), Sheet.NO);
        s.dueResolved("a:c/..", "a:c/..");
        s.due("base(-1) again", s.x.base(-1), 1);
        s.due("base(0)", s.x.base(0), 1);
        s.dueResolved("c", "a:c");
    }

    private static void noSuchTerm() {
        s.sentence("BAD: no such term");
        s.due("base(0) without terms", s.x.base(0), Sheet.BAD);
        s.freshWithBase("a:/b");
        for (int term : new int[] {1, 2, 59, 60, 61, -2, -3, -10, Integer.MIN_VALUE, Integer.MAX_VALUE}) {
            s.due("base(" + term + ")", s.x.base(term), Sheet.BAD);
        }
        s.dueResolved("c", "a:/c");
        s.freshWithLabels(60);
        s.due("base(60)", s.x.base(60), Sheet.BAD);
    }

    private static void noAddress() {
        s.sentence("or it is none");
        s.freshWithBase("a:/b");
        s.x.label(0);
        s.text("a:/c", 0);
        s.tag("en", 2);
        s.text("a:/c", 2);
        s.text("a:/c", 3);
        s.text("a:/c", 4);
        for (int term = 1; term < 7; term++) {
            s.due("base(" + term + ")", s.x.base(term), Sheet.BAD);
        }
        s.dueResolved("d", "a:/d");
        s.x.base(-1);
        s.due("base(1)", s.x.base(1), Sheet.BAD);
        s.due("still none", s.address("d"), Sheet.NO);
    }
}
