/** Promise 9: part. */
public final class P09PartTest {
    private static final Sheet s = new Sheet();

    private static void dueParts(String address, int... want) {
        int term = s.address(address);
        for (int what = 0; what < 5; what++) {
            s.due("part " + what + " of " + address, s.x.part(term, what), want[what]);
        }
    }

    public static void main(String[] args) {
        int no = Sheet.NO;
        dueParts("http://host:80/a/b?q=1#frag", 4, 7, 4, 3, 4);
        dueParts("a:", 1, no, 0, no, no);
        dueParts("a:b", 1, no, 1, no, no);
        dueParts("a://", 1, 0, 0, no, no);
        dueParts("a:///", 1, 0, 1, no, no);
        dueParts("a:////", 1, 0, 2, no, no);
        dueParts("a:/", 1, no, 1, no, no);
        dueParts("a:?", 1, no, 0, 0, no);
        dueParts("a:#", 1, no, 0, no, 0);
        dueParts("a:?#", 1, no, 0, 0, 0);
        dueParts("a:#?", 1, no, 0, no, 1);
        dueParts("a://h?q/r?s#t?u/", 1, 1, 0, 5, 4);
        dueParts("a://h#f", 1, 1, 0, no, 1);
        dueParts("a://h/p#f", 1, 1, 2, no, 1);
        dueParts("a1+-.Z:b:c", 6, no, 3, no, no);
        dueParts("a:b//c", 1, no, 4, no, no);
        dueParts("a:/b//c", 1, no, 5, no, no);
        dueParts("a:%41%42", 1, no, 6, no, no);
        dueParts("a://u@h:1/", 1, 5, 1, no, no);

        s.freshWithBase("s://h/p?q");
        dueParts("#f", 1, 1, 2, 1, 1);
        s.x.base(-1);
        s.address("s:/x");
        s.x.base(s.x.count(0) - 1);
        dueParts("/.//y", 1, 1, 0, no, no);

        s.fresh();
        s.address("a:b");
        s.x.label(1);
        s.text("a:b", 0);
        int[] wrongTerms = {1, 2, 3, -1, 60, Integer.MIN_VALUE, Integer.MAX_VALUE};
        for (int a : wrongTerms) {
            for (int what = -1; what < 6; what++) {
                s.due("part(" + a + ", " + what + ")", s.x.part(a, what), Sheet.BAD);
            }
        }
        int[] wrongParts = {-1, 5, Integer.MIN_VALUE, Integer.MAX_VALUE};
        for (int what : wrongParts) {
            s.due("part(0, " + what + ")", s.x.part(0, what), Sheet.BAD);
        }
        s.end();
    }
}
