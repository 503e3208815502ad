/** Promise 9, one method a sentence. */
public final class Edge09PartTest {
    private static final int NO = Sheet.NO;
    private static final Sheet s = new Sheet();

    public static void main(String[] args) {
        parts();
        howMany();
        noAddress();
        noSuchPart();
        hasNone();
        ofResolved();
        s.end();
    }

    private static void parts() {
        s.sentence("Part what of an address (0 SCHEME, 1 AUTHORITY, 2 PATH, 3 QUERY, 4 FRAGMENT)");
        s.dueParts(s.address("a://bb/cc?dddd#eeeee"), 1, 2, 3, 4, 5);
        s.dueParts(s.address("aaaaa://bbbb/c?d#"), 5, 4, 2, 1, 0);
    }

    private static void howMany() {
        s.sentence("how many bytes");
        s.dueParts(s.address("a://?#"), 1, 0, 0, 0, 0);
        s.dueParts(s.address("a:%41%42"), 1, NO, 6, NO, NO);
        s.dueParts(s.address("a:" + "p".repeat(94)), 1, NO, 94, NO, NO);
        s.dueParts(s.address("a://" + "h".repeat(92)), 1, 92, 0, NO, NO);
        s.dueParts(s.address("a:?" + "q".repeat(93)), 1, NO, 0, 93, NO);
        s.dueParts(s.address("a:#" + "f".repeat(93)), 1, NO, 0, NO, 93);
        s.dueParts(s.address("s".repeat(95) + ":"), 95, NO, 0, NO, NO);
        s.freshWithBase("abc:");
        s.dueParts(s.address("p".repeat(96)), 3, NO, 96, NO, NO);
    }

    private static void noAddress() {
        s.sentence("BAD: a is no address");
        s.address("a:b");
        s.x.label(0);
        s.text("a:b", 0);
        s.tag("en", 2);
        s.text("a:b", 4);
        for (int what = -1; what < 6; what++) {
            for (int a = 1; a < 6; a++) {
                s.due("part(" + a + ", " + what + ")", s.x.part(a, what), Sheet.BAD);
            }
            for (int a : Sheet.NEVER_TERMS) {
                s.due("part(" + a + ", " + what + ")", s.x.part(a, what), Sheet.BAD);
            }
        }
        s.freshWithLabels(60);
        s.due("part(59, 0)", s.x.part(59, 0), Sheet.BAD);
        s.due("part(60, 0)", s.x.part(60, 0), Sheet.BAD);
    }

    private static void noSuchPart() {
        s.sentence("no such part");
        s.address("a://b/c?d#e");
        s.address("a:");
        for (int what : new int[] {-1, -2, 5, 6, Integer.MIN_VALUE, Integer.MAX_VALUE}) {
            s.due("part(0, " + what + ")", s.x.part(0, what), Sheet.BAD);
            s.due("part(1, " + what + ")", s.x.part(1, what), Sheet.BAD);
        }
    }

    private static void hasNone() {
        s.sentence("NO: it has none");
        s.dueParts(s.address("a:"), 1, NO, 0, NO, NO);
        s.dueParts(s.address("a:/"), 1, NO, 1, NO, NO);
        s.dueParts(s.address("a://"), 1, 0, 0, NO, NO);
        s.dueParts(s.address("a:?"), 1, NO, 0, 0, NO);
        s.dueParts(s.address("a:#"), 1, NO, 0, NO, 0);
        s.dueParts(s.address("a:b"), 1, NO, 1, NO, NO);
    }

    private static void ofResolved() {
        s.sentence("Part what of an address");
        s.freshWithBase("a://h/p?q");
        s.dueParts(s.address("#"), 1, 1, 2, 1, 0);
        s.dueParts(s.address("?"), 1, 1, 2, 0, NO);
        s.dueParts(s.address("//"), 1, 0, 0, NO, NO);
        s.dueParts(s.address("bb/../c"), 1, 1, 2, NO, NO);
        s.dueParts(s.address("b:"), 1, NO, 0, NO, NO);
    }
}
