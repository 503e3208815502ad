/** Promise 11, one method a sentence. */
public final class Edge11SortTest {
    private static final Sheet s = new Sheet();

    public static void main(String[] args) {
        ofALiteral();
        bad();
        s.end();
    }

    private static void ofALiteral() {
        s.sentence("Of a literal its sort");
        s.text("7", 4);
        s.text("7", 3);
        s.text("7", 2);
        s.text("7", 0);
        s.tag("en", 3);
        s.text("", 0);
        int[] want = {4, 3, 2, 0, 1, 0};
        for (int a = 0; a < want.length; a++) {
            s.due("sort(" + a + ")", s.x.sort(a), want[a]);
        }
    }

    private static void bad() {
        s.sentence("Of a literal its sort. BAD");
        s.due("sort(0) without terms", s.x.sort(0), Sheet.BAD);
        s.text("t", 0);
        s.due("sort(0)", s.x.sort(0), 0);
        s.due("sort(1)", s.x.sort(1), Sheet.BAD);
        s.x.label(0);
        s.due("of a label", s.x.sort(1), Sheet.BAD);
        s.address("a:b");
        s.due("of an address", s.x.sort(2), Sheet.BAD);
        for (int a : Sheet.NEVER_TERMS) {
            s.due("sort(" + a + ")", s.x.sort(a), Sheet.BAD);
        }
        s.freshWithLabels(59);
        s.text("t", 4);
        s.due("sort(58)", s.x.sort(58), Sheet.BAD);
        s.due("sort(59)", s.x.sort(59), 4);
        s.due("sort(60)", s.x.sort(60), Sheet.BAD);
    }
}
