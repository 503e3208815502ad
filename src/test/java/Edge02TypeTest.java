/** Promise 2, one method a sentence. */
public final class Edge02TypeTest {
    private static final long EIGHT = Sheet.packed("abcdefgh");
    private static final Sheet s = new Sheet();

    public static void main(String[] args) {
        lowestBytes();
        highestFirst();
        behindTheTape();
        itsLength();
        badCount();
        badByte();
        badByteAbove();
        full();
        nothingComes();
        roomAgain();
        s.end();
    }

    private static void lowestBytes() {
        s.sentence("The lowest n bytes of bytes");
        for (int n = 1; n <= 8; n++) {
            s.fresh();
            s.due("type of " + n, s.x.type(EIGHT, n), n);
            s.due("what came", s.shown(s.x.literal(0), 0), "\"" + "abcdefgh".substring(8 - n) + "\"");
        }
    }

    private static void highestFirst() {
        s.sentence("the highest of them first");
        s.x.type(0x7E20L, 2);
        s.due("what came", s.shown(s.x.literal(0), 0), "\"~ \"");
        s.x.type(0x207EL, 2);
        s.due("what came", s.shown(s.x.literal(0), 0), "\" ~\"");
    }

    private static void behindTheTape() {
        s.sentence("come behind the tape");
        s.x.type(EIGHT, 8);
        s.x.type('i', 1);
        s.x.type(Sheet.packed("jk"), 2);
        s.due("what came", s.shown(s.x.literal(0), 0), "\"abcdefghijk\"");
    }

    private static void itsLength() {
        s.sentence("come behind the tape: its length");
        int length = 0;
        for (int n : new int[] {1, 8, 2, 7, 3, 6, 4, 5}) {
            length += n;
            s.due("type of " + n, s.x.type(EIGHT, n), length);
        }
    }

    private static void badCount() {
        s.sentence("BAD when n is not 1 .. 8");
        s.x.type('a', 1);
        for (int n : new int[] {0, -1, -8, 9, 10, 16, 64, 257, Integer.MIN_VALUE, Integer.MIN_VALUE + 1, Integer.MAX_VALUE}) {
            s.due("type of " + n, s.x.type(EIGHT, n), Sheet.BAD);
        }
        s.due("nothing came", s.x.count(2), 1);
        s.put("a".repeat(95));
        s.due("type of 0 on a full tape", s.x.type(EIGHT, 0), Sheet.BAD);
        s.due("type of 9 on a full tape", s.x.type(EIGHT, 9), Sheet.BAD);
    }

    private static void badByte() {
        s.sentence("BAD when n is not 1 .. 8, or a byte is not 32 .. 126");
        s.x.type('a', 1);
        for (int place = 0; place < 8; place++) {
            for (long b : new long[] {0, 9, 10, 13, 31, 127, 128, 160, 255}) {
                long bytes = EIGHT & ~(255L << 8 * place) | b << 8 * place;
                s.due("byte " + b + " at " + place, s.x.type(bytes, 8), Sheet.BAD);
                s.due("as the last that counts", s.x.type(bytes, place + 1), Sheet.BAD);
            }
        }
        s.due("nothing came", s.x.count(2), 1);
        s.put("a".repeat(94));
        s.due("a wrong byte where there is no room", s.x.type(0x611FL, 2), Sheet.BAD);
        s.due("two good bytes where there is no room", s.x.type(0x6161L, 2), Sheet.FULL);
    }

    private static void badByteAbove() {
        s.sentence("The lowest n bytes of bytes");
        s.due("-1 and a letter", s.x.type(-256L | 'a', 1), 1);
        s.due("0 and seven letters", s.x.type(EIGHT & 0xFFFFFFFFFFFFFFL, 7), 8);
        s.due("127 and two letters", s.x.type(0x7F6162L, 2), 10);
        s.due("128 and two letters", s.x.type(0x8000000000006162L, 2), 12);
        s.due("-1", s.x.type(-1L, 8), Sheet.BAD);
        s.due("the greatest", s.x.type(Long.MAX_VALUE, 8), Sheet.BAD);
        s.due("the least", s.x.type(Long.MIN_VALUE, 8), Sheet.BAD);
    }

    private static void full() {
        s.sentence("FULL (nothing comes)");
        for (int free = 0; free < 8; free++) {
            s.fresh();
            s.put("a".repeat(96 - free));
            for (int n = 8; n > free; n--) {
                s.due(n + " bytes where " + free + " have room", s.x.type(EIGHT, n), Sheet.FULL);
            }
            if (free > 0) {
                s.due("as many as have room", s.x.type(EIGHT, free), 96);
            }
            s.due("one more", s.x.type('a', 1), Sheet.FULL);
        }
    }

    private static void nothingComes() {
        s.sentence("FULL (nothing comes)");
        s.put("a:" + "b".repeat(88));
        s.due("bytes on the tape", s.x.count(2), 90);
        s.due("seven more", s.x.type(EIGHT, 7), Sheet.FULL);
        s.due("bytes on the tape", s.x.count(2), 90);
        s.due("two more", s.x.type(Sheet.packed("yz"), 2), 92);
        s.due("what came", s.shown(s.x.resolve(), 0), "<a:" + "b".repeat(88) + "yz>");
    }

    private static void roomAgain() {
        s.sentence("come behind the tape: its length");
        s.put("a".repeat(96));
        s.due("on a full tape", s.x.type('a', 1), Sheet.FULL);
        s.x.literal(0);
        s.due("on an empty one", s.x.type('a', 1), 1);
        s.put("a".repeat(95));
        s.due("full again", s.x.type('a', 1), Sheet.FULL);
    }
}
