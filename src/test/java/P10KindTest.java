/** Promise 10: kind. */
public final class P10KindTest {
    public static void main(String[] args) {
        Sheet s = new Sheet();
        s.address("a:b");
        s.x.label(7);
        for (int sort : new int[] {0, 2, 3, 4}) {
            s.text("t", sort);
        }
        s.tag("en", 2);
        int[] want = {0, 1, 2, 2, 2, 2, 2};
        for (int a = 0; a < want.length; a++) {
            s.due("kind(" + a + ")", s.x.kind(a), want[a]);
        }
        for (int a : new int[] {7, -1, 59, 60, Integer.MIN_VALUE, Integer.MAX_VALUE}) {
            s.due("kind(" + a + ")", s.x.kind(a), Sheet.BAD);
        }
        s.freshWithLabels(60);
        s.due("kind(59)", s.x.kind(59), 1);
        s.due("kind(60)", s.x.kind(60), Sheet.BAD);
        s.end();
    }
}
