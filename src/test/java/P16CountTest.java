/** Promise 16: count. */
public final class P16CountTest {
    private static final Sheet s = new Sheet();

    public static void main(String[] args) {
        s.dueCounts(0, 0, 0);
        s.put("a:b");
        s.dueCounts(0, 0, 3);
        s.x.resolve();
        s.dueCounts(1, 0, 0);
        s.put("p");
        s.dueCounts(1, 0, 1);
        s.x.prefix(0);
        s.dueCounts(1, 1, 0);
        s.name("p", 0);
        s.dueCounts(1, 1, 0);
        s.x.label(3);
        s.x.label(3);
        s.dueCounts(2, 1, 0);
        s.text("t", 0);
        s.tag("en", 2);
        s.dueCounts(4, 1, 0);
        s.put("a".repeat(96));
        s.dueCounts(4, 1, 96);
        s.x.literal(9);
        s.dueCounts(4, 1, 0);
        for (int what : new int[] {3, -1, Integer.MIN_VALUE, Integer.MAX_VALUE}) {
            s.due("count(" + what + ")", s.x.count(what), Sheet.BAD);
        }
        s.end();
    }
}
