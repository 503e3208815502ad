/** The section 'Terms': PREFIXES; one method a sentence. */
public final class EdgePrefixesTest {
    private static final Sheet s = new Sheet();

    public static void main(String[] args) {
        nameLength();
        nameLetters();
        atMostEight();
        s.end();
    }

    private static void nameLength() {
        s.sentence("PREFIXES have a NAME of 0 .. 6 letters");
        s.address("a:b");
        for (int length = 0; length <= 6; length++) {
            s.due("name of " + length, s.name("n".repeat(length), 0), 1);
        }
        for (int length : new int[] {7, 8, 9, 96}) {
            s.due("name of " + length, s.name("n".repeat(length), 0), Sheet.BAD);
        }
        s.due("prefixes", s.x.count(1), 7);
    }

    private static void nameLetters() {
        s.sentence("letters a .. z");
        for (int b = 32; b <= 126; b++) {
            s.fresh();
            s.address("a:b");
            boolean good = b >= 'a' && b <= 'z';
            s.due("name " + (char) b, s.name(String.valueOf((char) b), 0), good ? 1 : Sheet.BAD);
            s.due("name at its end " + (char) b, s.name("mmmmm" + (char) b, 0), good ? 1 : Sheet.BAD);
            s.due("prefixes", s.x.count(1), good ? 2 : 0);
        }
    }

    private static void atMostEight() {
        s.sentence("and an address; at most 8");
        s.address("a:b");
        s.address("a:c");
        for (int i = 0; i < 8; i++) {
            s.due("prefix " + (i + 1), s.name("" + (char) ('a' + i), i % 2), 1);
        }
        s.due("9th", s.name("i", 0), Sheet.FULL);
        s.due("9th with the empty name", s.name("", 0), Sheet.FULL);
        s.due("prefixes", s.x.count(1), 8);
        s.due("the 8th tells", s.name("h", 0), 0);
        for (int i = 0; i < 7; i++) {
            s.due("the others are another's now", s.name("" + (char) ('a' + i), 1), 0);
        }
        s.due("short by the 8th", s.shown(0, 1), "h:");
        s.due("short by the first", s.shown(1, 1), "a:");
    }
}
