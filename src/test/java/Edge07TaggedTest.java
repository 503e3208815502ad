/** Promise 7, one method a sentence. */
public final class Edge07TaggedTest {
    private static final Sheet s = new Sheet();

    public static void main(String[] args) {
        emptyThen();
        firstPart();
        firstPartLetters();
        otherParts();
        otherPartsBytes();
        sixteenInAll();
        greatBecomeSmall();
        textWithThatTag();
        noLiteralOfSortZero();
        wrongPlace();
        endsTooEarly();
        ninthOfAPart();
        seventeenthOfAll();
        full();
        s.end();
    }

    private static void dueAndEmpty(String tag, int a, int want) {
        s.due("tagged(" + a + ") of " + tag, s.tag(tag, a), want);
        s.due("bytes on the tape", s.x.count(2), 0);
        s.due("the next byte", s.x.type('a', 1), 1);
        s.x.resolve();
    }

    private static void emptyThen() {
        s.sentence("The tape likewise as a tag");
        s.text("t", 0);
        dueAndEmpty("en", 0, 1);
        dueAndEmpty("en", 0, 1);
        dueAndEmpty("en", 1, Sheet.BAD);
        dueAndEmpty("en", 2, Sheet.BAD);
        dueAndEmpty("e", 0, -11);
        dueAndEmpty("", 0, -10);
        s.freshWithLabels(59);
        s.text("t", 0);
        dueAndEmpty("en", 59, Sheet.FULL);
    }

    /** A new object with a text for term 0, and what its tag is answered with: 1 if it is one. */
    private static void dueTag(String tag, int want) {
        s.fresh();
        s.text("t", 0);
        s.due("tag " + tag, s.tag(tag, 0), want);
    }

    private static void firstPart() {
        s.sentence("2 to 8 letters");
        String letters = "abcdefghijkl";
        for (int length = 0; length < 12; length++) {
            int want = length < 2 ? -10 - length : length > 8 ? -18 : 1;
            dueTag(letters.substring(0, length), want);
            dueTag(letters.substring(0, length) + "-x", length < 2 ? -10 - length : want);
        }
    }

    private static void firstPartLetters() {
        s.sentence("2 to 8 letters");
        for (int b = 32; b <= 126; b++) {
            boolean letter = b >= 'A' && b <= 'Z' || b >= 'a' && b <= 'z';
            dueTag((char) b + "b", letter ? 1 : -10);
            dueTag("ab" + (char) b, letter ? 1 : b == '-' ? -13 : -12);
        }
    }

    private static void otherParts() {
        s.sentence("and then any parts, each of - and 1 to 8 letters and digits");
        dueTag("en", 1);
        dueTag("en-", -13);
        dueTag("en-a", 1);
        dueTag("en-1", 1);
        dueTag("en-abcdefgh", 1);
        dueTag("en-12345678", 1);
        dueTag("en-abcdefghi", -21);
        dueTag("en-123456789", -21);
        dueTag("en--a", -13);
        dueTag("en-a-", -15);
        dueTag("en-a--", -15);
        dueTag("en-a-b-c-d-e-f-g", 1);
        dueTag("en-12345678-1234", 1);
        dueTag("abcdefgh-1234567", 1);
    }

    private static void otherPartsBytes() {
        s.sentence("letters and digits");
        for (int b = 32; b <= 126; b++) {
            boolean good = b >= '0' && b <= '9' || b >= 'A' && b <= 'Z' || b >= 'a' && b <= 'z';
            dueTag("en-" + (char) b, good ? 1 : -13);
            dueTag("en-a" + (char) b, good ? 1 : b == '-' ? -15 : -14);
        }
    }

    private static void sixteenInAll() {
        s.sentence("16 bytes in all at most");
        String[] longest = {"abcdefgh-1234567", "ab-cdefghij-klmn", "ab-c-d-e-f-g-h-i", "abcde-f-ghijklmn"};
        for (String tag : longest) {
            dueTag(tag.substring(0, 15) + "x", 1);
            dueTag(tag, 1);
            dueTag(tag + "x", -26);
            dueTag(tag + "-", -26);
            dueTag(tag + "-x", -26);
            dueTag(tag + "_", -26);
        }
    }

    private static void greatBecomeSmall() {
        s.sentence("great letters become small");
        s.text("T", 0);
        s.due("tag", s.tag("AZaz-AZaz09", 0), 1);
        s.due("printed", s.shown(1, 0), "\"T\"@azaz-azaz09");
        s.due("the same tag", s.tag("azAZ-aZaZ09", 0), 1);
        s.due("the same small", s.tag("azaz-azaz09", 0), 1);
        s.due("terms", s.x.count(0), 2);
    }

    private static void textWithThatTag() {
        s.sentence("literal term a's text with that tag: its term");
        s.text("", 0);
        s.text("\\t\\\"", 0);
        s.text("t".repeat(40), 0);
        s.due("of the empty text", s.shown(s.tag("en", 0), 0), "\"\"@en");
        s.due("of a text with escapes", s.shown(s.tag("en", 1), 0), "\"\\t\\\"\"@en");
        s.due("of the longest", s.shown(s.tag("en", 2), 0), "\"" + "t".repeat(40) + "\"@en");
        s.due("again", s.tag("en", 1), 4);
        s.due("another tag", s.tag("de", 1), 6);
        s.due("the term itself stays", s.shown(1, 0), "\"\\t\\\"\"");
        s.due("its sort", s.x.sort(4), 1);
        s.due("the sort of the term itself", s.x.sort(1), 0);
    }

    private static void noLiteralOfSortZero() {
        s.sentence("BAD: a is no literal of sort 0");
        s.text("t", 0);
        s.tag("en", 0);
        s.text("t", 2);
        s.text("t", 3);
        s.text("t", 4);
        s.x.label(0);
        s.address("a:b");
        for (int a = 1; a < 8; a++) {
            s.due("tagged(" + a + ")", s.tag("de", a), Sheet.BAD);
            s.due("of a wrong tag", s.tag("1", a), Sheet.BAD);
        }
        for (int a : Sheet.NEVER_TERMS) {
            s.due("tagged(" + a + ")", s.tag("de", a), Sheet.BAD);
        }
        s.due("no term came", s.x.count(0), 7);
        s.freshWithLabels(60);
        s.due("a label where there is no room", s.tag("de", 0), Sheet.BAD);
        s.due("no term where there is no room", s.tag("de", 60), Sheet.BAD);
    }

    private static void wrongPlace() {
        s.sentence("-10 less the place of the first byte that can't be");
        dueTag(" en", -10);
        dueTag("e n", -11);
        dueTag("en ", -12);
        dueTag("1en", -10);
        dueTag("e1", -11);
        dueTag("en1", -12);
        dueTag("-en", -10);
        dueTag("e-n", -11);
        dueTag("en_", -12);
        dueTag("en-_", -13);
        dueTag("en-a_", -14);
        dueTag("en-a_b_", -14);
        dueTag("e_-", -11);
        dueTag("abcdefgh-abcdef_", -25);
        s.due("no term came", s.x.count(0), 1);
    }

    private static void endsTooEarly() {
        s.sentence("(the tape's length, if it ends too early");
        dueTag("", -10);
        dueTag("e", -11);
        dueTag("en-", -13);
        dueTag("en-a-", -15);
        dueTag("abcdefgh-", -19);
        dueTag("en-abcdefgh-", -22);
        dueTag("abcdefgh-abcdef-", -26);
    }

    private static void ninthOfAPart() {
        s.sentence("the 9th of a part");
        dueTag("abcdefgh", 1);
        dueTag("abcdefghi", -18);
        dueTag("abcdefghi-", -18);
        dueTag("a".repeat(96), -18);
        dueTag("en-abcdefgh", 1);
        dueTag("en-abcdefghi", -21);
        dueTag("en-a-abcdefghi", -23);
        dueTag("abcdef-12345678", 1);
        dueTag("abcdef-123456789", -25);
        dueTag("abcdefg-123456789", -26);
    }

    private static void seventeenthOfAll() {
        s.sentence("the 17th of all)");
        dueTag("abcdefgh-1234567", 1);
        dueTag("abcdefgh-12345678", -26);
        dueTag("abcdefgh-1234567-", -26);
        dueTag("abcdefgh-123456-1", -26);
        dueTag("en" + "-a".repeat(7), 1);
        dueTag("en" + "-a".repeat(8), -26);
        dueTag("en" + "-a".repeat(47), -26);
        dueTag("ena" + "-a".repeat(7), -26);
    }

    private static void full() {
        s.sentence("FULL");
        s.freshWithLabels(58);
        s.text("t", 0);
        s.due("60th", s.tag("en", 58), 59);
        s.due("61st", s.tag("de", 58), Sheet.FULL);
        s.due("one there is", s.tag("EN", 58), 59);
        s.due("a wrong tag", s.tag("d", 58), -11);
        s.due("a tagged one", s.tag("de", 59), Sheet.BAD);
        s.due("terms", s.x.count(0), 60);
    }
}
