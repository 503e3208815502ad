/** Promise 2: type. */
public final class P02TypeTest {
    public static void main(String[] args) {
        Sheet s = new Sheet();
        s.due("type ab", s.x.type(Sheet.packed("ab"), 2), 2);
        s.due("type of 8", s.x.type(Sheet.packed("cdefghij"), 8), 10);
        s.due("higher bytes are not looked at", s.x.type(0x0102030405060000L | Sheet.packed("kl"), 2), 12);
        s.due("negative long", s.x.type(0xFFFFFFFFFFFFFF00L | 'm', 1), 13);
        s.due("order of bytes", s.shown(s.x.literal(0), 0), "\"abcdefghijklm\"");

        s.due("lowest byte", s.x.type(32, 1), 1);
        s.due("highest byte", s.x.type(126, 1), 2);
        int[] wrongBytes = {0, 9, 10, 31, 127, 128, 200, 255};
        for (int b : wrongBytes) {
            s.due("type byte " + b, s.x.type(b, 1), Sheet.BAD);
            s.due("type first byte " + b, s.x.type((long) b << 8 | 'a', 2), Sheet.BAD);
            s.due("type last byte " + b, s.x.type('a' << 8 | b, 2), Sheet.BAD);
            s.due("type highest of eight " + b, s.x.type((long) b << 56 | Sheet.packed("aaaaaaa"), 8), Sheet.BAD);
        }
        int[] wrongLengths = {0, -1, 9, 100, Integer.MIN_VALUE, Integer.MAX_VALUE};
        for (int n : wrongLengths) {
            s.due("type length " + n, s.x.type(Sheet.packed("aaaaaaaa"), n), Sheet.BAD);
        }
        s.due("nothing came", s.x.count(2), 2);

        s.fresh();
        for (int i = 1; i <= 11; i++) {
            s.due("fill", s.x.type(Sheet.packed("aaaaaaaa"), 8), 8 * i);
        }
        s.due("to 95", s.x.type(Sheet.packed("aaaaaaa"), 7), 95);
        s.due("two too many", s.x.type(Sheet.packed("bb"), 2), Sheet.FULL);
        s.due("wrong and too many", s.x.type(1, 2), Sheet.BAD);
        s.due("nothing came", s.x.count(2), 95);
        s.due("to 96", s.x.type('c', 1), 96);
        s.due("one too many", s.x.type('d', 1), Sheet.FULL);
        s.due("still 96", s.x.count(2), 96);
        s.end();
    }
}
