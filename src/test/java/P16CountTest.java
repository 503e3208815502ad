/** Promise 16: count. */
public final class P16CountTest {
    private static final Sheet s = new Sheet();

    private static void dueCounts(int terms, int prefixes, int bytes) {
        s.due("count(0)", s.x.count(0), terms);
        s.due("count(1)", s.x.count(1), prefixes);
        s.due("count(2)", s.x.count(2), bytes);
    }

    public static void main(String[] args) {
        dueCounts(0, 0, 0);
        s.put("a:b");
        dueCounts(0, 0, 3);
        s.x.resolve();
        dueCounts(1, 0, 0);
        s.put("p");
        dueCounts(1, 0, 1);
        s.x.prefix(0);
        dueCounts(1, 1, 0);
        s.name("p", 0);
        dueCounts(1, 1, 0);
        s.x.label(3);
        s.x.label(3);
        dueCounts(2, 1, 0);
        s.text("t", 0);
        s.tag("en", 2);
        dueCounts(4, 1, 0);
        s.put("a".repeat(96));
        dueCounts(4, 1, 96);
        s.x.literal(9);
        dueCounts(4, 1, 0);
        for (int what : new int[] {3, -1, Integer.MIN_VALUE, Integer.MAX_VALUE}) {
            s.due("count(" + what + ")", s.x.count(what), Sheet.BAD);
        }
        s.end();
    }
}
