/** Promise 13, one method a sentence; THE ORDER has a test of its own. */
public final class Edge13CompareTest {
    private static final Sheet s = new Sheet();

    public static void main(String[] args) {
        beforeOneBehind();
        oneIsMoreThanAlike();
        noSuchTerms();
        s.end();
    }

    private static void beforeOneBehind() {
        s.sentence("-1 a is before b, 0 they are one, 1 behind it");
        s.x.label(999);
        s.x.label(0);
        s.text("zzzz", 0);
        s.text("", 4);
        s.due("far before", s.x.compare(1, 0), -1);
        s.due("far behind", s.x.compare(0, 1), 1);
        s.due("one", s.x.compare(0, 0), 0);
        s.due("bytes before", s.x.compare(3, 2), -1);
        s.due("bytes behind", s.x.compare(2, 3), 1);
        s.due("a label and a literal", s.x.compare(0, 3), -1);
        s.due("a literal and a label", s.x.compare(3, 0), 1);
        s.freshWithLabels(60);
        s.due("compare(59, 59)", s.x.compare(59, 59), 0);
        s.due("compare(58, 59)", s.x.compare(58, 59), -1);
    }

    private static void oneIsMoreThanAlike() {
        s.sentence("0 they are one");
        s.text("1", 2);
        s.text("01", 2);
        s.text("true", 3);
        s.text("1", 3);
        s.due("the same value", s.x.alike(0, 1), 1);
        s.due("not one", s.x.compare(0, 1), 1);
        s.due("the same value", s.x.alike(2, 3), 1);
        s.due("not one", s.x.compare(2, 3), 1);
    }

    private static void noSuchTerms() {
        s.sentence("NO: there are no such terms");
        s.due("compare(0, 0) without terms", s.x.compare(0, 0), Sheet.NO);
        s.x.label(0);
        s.due("compare(0, 1)", s.x.compare(0, 1), Sheet.NO);
        s.due("compare(1, 0)", s.x.compare(1, 0), Sheet.NO);
        s.due("compare(1, 1)", s.x.compare(1, 1), Sheet.NO);
        for (int a : Sheet.NEVER_TERMS) {
            s.due("compare(" + a + ", 0)", s.x.compare(a, 0), Sheet.NO);
            s.due("compare(0, " + a + ")", s.x.compare(0, a), Sheet.NO);
            s.due("compare(" + a + ", " + a + ")", s.x.compare(a, a), Sheet.NO);
        }
    }
}
