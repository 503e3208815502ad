/** Promise 10, one method a sentence. */
public final class Edge10KindTest {
    private static final Sheet s = new Sheet();

    public static void main(String[] args) {
        whatATermIs();
        bad();
        s.end();
    }

    private static void whatATermIs() {
        s.sentence("What a term is: 0 address, 1 label, 2 literal");
        s.text("", 0);
        s.x.label(0);
        s.address("a:");
        s.tag("en", 0);
        s.text("", 2);
        s.text("", 3);
        s.text("", 4);
        s.x.label(999);
        s.x.base(2);
        s.address("b");
        int[] want = {2, 1, 0, 2, 2, 2, 2, 1, 0};
        for (int a = 0; a < want.length; a++) {
            s.due("kind(" + a + ")", s.x.kind(a), want[a]);
        }
    }

    private static void bad() {
        s.sentence("What a term is: 0 address, 1 label, 2 literal. BAD");
        s.due("kind(0) without terms", s.x.kind(0), Sheet.BAD);
        s.x.label(0);
        s.due("kind(0)", s.x.kind(0), 1);
        s.due("kind(1)", s.x.kind(1), Sheet.BAD);
        for (int a : Sheet.NEVER_TERMS) {
            s.due("kind(" + a + ")", s.x.kind(a), Sheet.BAD);
        }
        s.freshWithLabels(60);
        s.due("kind(59)", s.x.kind(59), 1);
        s.due("kind(60)", s.x.kind(60), Sheet.BAD);
        s.x.label(100);
        s.due("kind(60) behind a refused one", s.x.kind(60), Sheet.BAD);
    }
}
