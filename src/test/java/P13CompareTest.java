/** Promise 13: compare, with THE ORDER. */
public final class P13CompareTest {
    private static final Sheet s = new Sheet();

    public static void main(String[] args) {
        for (int turned = 0; turned < 2; turned++) {
            int[] order = freshTerms();
            for (int i = 0; i < order.length; i++) {
                for (int j = i; j < order.length; j++) {
                    int first = turned == 0 ? i : j;
                    int second = turned == 0 ? j : i;
                    int want = Integer.compare(first, second);
                    s.due("compare of places " + first + " and " + second, s.x.compare(order[first], order[second]), want);
                }
            }
        }
        for (int a : new int[] {23, -1, 60, Integer.MIN_VALUE, Integer.MAX_VALUE}) {
            s.due("compare(" + a + ", 0)", s.x.compare(a, 0), Sheet.NO);
            s.due("compare(0, " + a + ")", s.x.compare(0, a), Sheet.NO);
            s.due("compare(" + a + ", " + a + ")", s.x.compare(a, a), Sheet.NO);
        }
        s.fresh();
        int newLine = s.text("a\\n", 0);
        int space = s.text("a ", 0);
        int tilde = s.text("a~", 0);
        s.due("a low byte first", s.x.compare(newLine, space), -1);
        s.due("a high byte last", s.x.compare(tilde, space), 1);
        s.due("values do not count", s.x.compare(s.text("1", 2), s.text("+1", 2)), 1);
        s.end();
    }

    /** The terms come in another order than THE ORDER, in which this row names them. */
    private static int[] freshTerms() {
        s.fresh();
        int[] order = new int[23];
        order[22] = s.text("b", 0);
        order[18] = s.text("a\\\"", 4);
        order[6] = s.address("B:a");
        order[7] = s.address("a:");
        order[9] = s.address("a:b");
        order[10] = s.address("a:b/");
        order[8] = s.address("a:Z");
        order[11] = s.address("a:c");
        order[3] = s.x.label(99);
        order[0] = s.x.label(0);
        order[5] = s.x.label(999);
        order[1] = s.x.label(2);
        order[4] = s.x.label(100);
        order[2] = s.x.label(10);
        order[15] = s.text("a", 2);
        order[17] = s.text("a", 4);
        order[12] = s.text("a", 0);
        order[16] = s.text("a", 3);
        order[14] = s.tag("en-a", order[12]);
        order[13] = s.tag("en", order[12]);
        order[20] = s.text("aa", 0);
        order[21] = s.tag("de", order[20]);
        order[19] = s.text("a0", 4);
        return order;
    }
}
