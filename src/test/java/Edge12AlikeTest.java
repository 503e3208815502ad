/** Promise 12, one method a sentence; VALUES have a test of their own. */
public final class Edge12AlikeTest {
    private static final Sheet s = new Sheet();

    public static void main(String[] args) {
        sameValue();
        bad();
        s.end();
    }

    private static void sameValue() {
        s.sentence("Whether two terms have the same value: 1, 0");
        s.text("1", 2);
        s.text("+01", 2);
        s.text("2", 2);
        s.text("true", 3);
        s.text("1", 3);
        s.text("0", 3);
        int[] value = {0, 0, 2, 3, 3, 5};
        for (int a = 0; a < value.length; a++) {
            for (int b = 0; b < value.length; b++) {
                s.due("alike(" + a + ", " + b + ")", s.x.alike(a, b), value[a] == value[b] ? 1 : 0);
            }
        }
        s.freshWithLabels(60);
        s.due("alike(59, 59)", s.x.alike(59, 59), 1);
        s.due("alike(0, 59)", s.x.alike(0, 59), 0);
    }

    private static void bad() {
        s.sentence("Whether two terms have the same value: 1, 0. BAD");
        s.due("alike(0, 0) without terms", s.x.alike(0, 0), Sheet.BAD);
        s.text("1", 2);
        s.due("alike(0, 1)", s.x.alike(0, 1), Sheet.BAD);
        s.due("alike(1, 0)", s.x.alike(1, 0), Sheet.BAD);
        s.due("alike(1, 1)", s.x.alike(1, 1), Sheet.BAD);
        for (int a : Sheet.NEVER_TERMS) {
            s.due("alike(" + a + ", 0)", s.x.alike(a, 0), Sheet.BAD);
            s.due("alike(0, " + a + ")", s.x.alike(0, a), Sheet.BAD);
            s.due("alike(" + a + ", " + a + ")", s.x.alike(a, a), Sheet.BAD);
        }
    }
}
