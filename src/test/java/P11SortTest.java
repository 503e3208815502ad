/** Promise 11: sort. */
public final class P11SortTest {
    public static void main(String[] args) {
        Sheet s = new Sheet();
        for (int sort : new int[] {0, 2, 3, 4}) {
            s.text("t", sort);
        }
        s.tag("en", 0);
        s.address("a:b");
        s.x.label(7);
        int[] want = {0, 2, 3, 4, 1, Sheet.BAD, Sheet.BAD, Sheet.BAD};
        for (int a = 0; a < want.length; a++) {
            s.due("sort(" + a + ")", s.x.sort(a), want[a]);
        }
        for (int a : new int[] {-1, 59, 60, Integer.MIN_VALUE, Integer.MAX_VALUE}) {
            s.due("sort(" + a + ")", s.x.sort(a), Sheet.BAD);
        }
        s.end();
    }
}
