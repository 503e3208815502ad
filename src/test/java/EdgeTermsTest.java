/** The section 'Terms', its first part: the tape, the terms, labels, texts and sorts; one method a sentence. */
public final class EdgeTermsTest {
    private static final Sheet s = new Sheet();

    public static void main(String[] args) {
        tapeLength();
        tapeBytes();
        numbersFromZero();
        refusedCallsTakeNoNumber();
        atMostSixty();
        likeOnesAreOne();
        unlikeOnesAreNot();
        addressBytes();
        labels();
        textLength();
        textLengthIsOfWhatIsMeant();
        textBytes();
        sorts();
        s.end();
    }

    private static void tapeLength() {
        s.sentence("THE TAPE has at most 96 bytes");
        String whole = "a:" + "b".repeat(93) + "c";
        s.put(whole);
        s.due("bytes on the tape", s.x.count(2), 96);
        for (int n = 1; n <= 8; n++) {
            s.due("type of " + n + " more", s.x.type(Sheet.packed("dddddddd"), n), Sheet.FULL);
        }
        s.due("bytes on the tape", s.x.count(2), 96);
        s.due("what was on it", s.shown(s.x.resolve(), 0), "<" + whole + ">");
    }

    private static void tapeBytes() {
        s.sentence("bytes of 32 .. 126");
        int length = 0;
        for (int b = 0; b < 256; b++) {
            boolean good = b >= 32 && b <= 126;
            length += good ? 1 : 0;
            s.due("type of byte " + b, s.x.type(b, 1), good ? length : Sheet.BAD);
        }
        s.due("bytes on the tape", s.x.count(2), 95);
    }

    private static void numbersFromZero() {
        s.sentence("TERMS are numbered from 0 as they first come");
        s.due("first", s.x.label(999), 0);
        s.due("second", s.text("t", 0), 1);
        s.due("third", s.tag("en", 1), 2);
        s.due("fourth", s.address("a:b"), 3);
        s.due("fifth", s.x.label(0), 4);
        s.due("the first again", s.x.label(999), 0);
        s.due("sixth", s.text("", 4), 5);
    }

    private static void refusedCallsTakeNoNumber() {
        s.sentence("TERMS are numbered from 0 as they first come");
        s.address("no");
        s.address("a:<");
        s.x.label(1000);
        s.text("\"", 0);
        s.text("t", 1);
        s.text("t".repeat(41), 0);
        s.tag("en", 0);
        s.due("first", s.text("t", 0), 0);
        s.tag("e", 0);
        s.due("second", s.tag("en", 0), 1);
    }

    private static void atMostSixty() {
        s.sentence("TERMS are numbered from 0 as they first come, at most 60");
        for (int way = 0; way < 4; way++) {
            s.freshWithLabels(58);
            s.due("59th", s.text("t", 0), 58);
            s.due("60th, way " + way, another(way, "a"), 59);
            for (int next = 0; next < 4; next++) {
                s.due("61st, way " + next, another(next, "b"), Sheet.FULL);
            }
            s.due("terms", s.x.count(0), 60);
            s.due("term 60", s.x.kind(60), Sheet.BAD);
        }
    }

    /** One of the four ways in which a term comes; term 58 is a plain literal. */
    private static int another(int way, String unlike) {
        switch (way) {
            case 0:
                return s.address("a:" + unlike);
            case 1:
                return s.x.label(unlike.charAt(0));
            case 2:
                return s.text(unlike, 0);
            default:
                return s.tag("x" + unlike, 58);
        }
    }

    private static void likeOnesAreOne() {
        s.sentence("like ones are one");
        s.text("t", 0);
        int[] terms = {s.address("a:b"), s.x.label(5), s.text("u", 3), s.tag("en-GB", 0)};
        for (int round = 0; round < 2; round++) {
            s.due("address", s.address("a:b"), terms[0]);
            s.due("label", s.x.label(5), terms[1]);
            s.due("literal", s.text("u", 3), terms[2]);
            s.due("literal by an escape", s.text("\\u0075", 3), terms[2]);
            s.due("tagged", s.tag("EN-gb", 0), terms[3]);
            for (int i = 0; round == 0 && i < 55; i++) {
                s.due("to fill the room", s.x.label(100 + i), 5 + i);
            }
        }
        s.due("none came", s.x.count(0), 60);
    }

    private static void unlikeOnesAreNot() {
        s.sentence("like ones are one");
        s.due("label 1", s.x.label(1), 0);
        s.due("text 1", s.text("1", 0), 1);
        s.due("whole 1", s.text("1", 2), 2);
        s.due("truth 1", s.text("1", 3), 3);
        s.due("other 1", s.text("1", 4), 4);
        s.due("whole 01, of the same value", s.text("01", 2), 5);
        s.due("truth true, of the same value", s.text("true", 3), 6);
        s.due("tagged 1", s.tag("en", 1), 7);
        s.due("with a longer tag", s.tag("en-a", 1), 8);
        s.due("address", s.address("a:1"), 9);
        s.due("text of those bytes", s.text("a:1", 0), 10);
        s.due("great letters", s.address("A:1"), 11);
        s.due("a byte told by %", s.address("a:%31"), 12);
        s.due("empty text", s.text("", 0), 13);
        s.due("text of a space", s.text(" ", 0), 14);
        s.due("label 10", s.x.label(10), 15);
    }

    private static void addressBytes() {
        s.sentence("an ADDRESS (bytes)");
        s.dueResolved("a:%41B%41b", "a:%41B%41b");
        s.dueResolved("S://H/P", "S://H/P");
    }

    private static void labels() {
        s.sentence("a LABEL (0 .. 999)");
        for (int number = 0; number < 1000; number++) {
            if (number % 60 == 0) {
                s.fresh();
            }
            s.due("label(" + number + ")", s.x.label(number), number % 60);
        }
        s.fresh();
        for (int number : new int[] {-1, -999, 1000, 1001, 1256, 65536, Integer.MIN_VALUE, Integer.MAX_VALUE}) {
            s.due("label(" + number + ")", s.x.label(number), Sheet.BAD);
        }
        s.due("terms", s.x.count(0), 0);
    }

    private static void textLength() {
        s.sentence("a TEXT (at most 40 bytes");
        int[] lengths = {0, 1, 39, 40};
        for (int i = 0; i < lengths.length; i++) {
            s.due(lengths[i] + " bytes", s.text("t".repeat(lengths[i]), 0), i);
            s.due("its print", s.x.print(i, 0), lengths[i] + 2);
        }
        for (int length : new int[] {41, 42, 80, 96}) {
            s.due(length + " bytes", s.text("t".repeat(length), 0), Sheet.FULL);
        }
        for (int sort : new int[] {2, 3, 4}) {
            s.due("40 bytes of sort " + sort, s.text("t".repeat(40), sort), sort + 2);
            s.due("41 bytes of sort " + sort, s.text("t".repeat(41), sort), Sheet.FULL);
        }
        s.due("40 bytes and a tag", s.tag("en", 3), 7);
    }

    private static void textLengthIsOfWhatIsMeant() {
        s.sentence("a TEXT (at most 40 bytes");
        s.due("40 bytes by 80", s.text("\\n".repeat(40), 0), 0);
        s.due("41 bytes by 81", s.text("\\n".repeat(40) + "a", 0), Sheet.FULL);
        s.due("41 bytes by 82", s.text("\\n".repeat(41), 0), Sheet.FULL);
        s.due("16 bytes by 96", s.text("\\u000a".repeat(16), 0), 1);
        s.due("40 bytes by 60", s.text("\\u0041".repeat(4) + "a".repeat(36), 0), 2);
        s.due("41 bytes by 61", s.text("\\u0041".repeat(4) + "a".repeat(37), 0), Sheet.FULL);
        s.due("its print", s.x.print(0, 0), 82);
        s.due("its print", s.x.print(1, 0), 34);
        s.due("its print", s.x.print(2, 0), 42);
    }

    private static void textBytes() {
        s.sentence("bytes of 9, 10, 13, 32 .. 126)");
        for (int b = 0; b < 256; b++) {
            if (b % 50 == 0) {
                s.fresh();
            }
            boolean good = b == 9 || b == 10 || b == 13 || b >= 32 && b <= 126;
            int before = s.x.count(0);
            s.due("text of byte " + b, s.text(String.format("\\u%04x", b), 0), good ? before : -10);
        }
    }

    private static void sorts() {
        s.sentence("with a SORT: 0 plain; 1 TAGGED, with a tag; 2 whole, 3 truth, 4 other, typed so");
        s.due("plain", s.shown(s.text("t", 0), 0), "\"t\"");
        s.due("tagged", s.shown(s.tag("en", 0), 0), "\"t\"@en");
        s.due("whole", s.shown(s.text("t", 2), 0), "\"t\"^^whole");
        s.due("truth", s.shown(s.text("t", 3), 0), "\"t\"^^truth");
        s.due("other", s.shown(s.text("t", 4), 0), "\"t\"^^other");
        for (int a = 0; a < 5; a++) {
            s.due("sort(" + a + ")", s.x.sort(a), a);
        }
    }
}
