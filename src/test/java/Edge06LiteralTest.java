/** Promise 6, one method a sentence. */
public final class Edge06LiteralTest {
    private static final Sheet s = new Sheet();

    public static void main(String[] args) {
        emptyThen();
        sorts();
        itsTerm();
        shortEscapes();
        longEscapes();
        bothSizes();
        oneThatATextMayHave();
        anotherSort();
        wrongPlace();
        backslashThatBeginsNone();
        quoteWithoutIt();
        firstOfSeveral();
        tooLong();
        sixtyFirst();
        s.end();
    }

    private static void dueAndEmpty(String text, int sort, int want) {
        s.due("literal(" + sort + ") of " + text, s.text(text, sort), want);
        s.due("bytes on the tape", s.x.count(2), 0);
        s.due("the next byte", s.x.type('a', 1), 1);
        s.x.resolve();
    }

    private static void emptyThen() {
        s.sentence("The tape, which is empty then whatever the answer");
        dueAndEmpty("t", 0, 0);
        dueAndEmpty("t", 0, 0);
        dueAndEmpty("t", 1, Sheet.BAD);
        dueAndEmpty("t", 5, Sheet.BAD);
        dueAndEmpty("\"", 0, -10);
        dueAndEmpty("t".repeat(41), 0, Sheet.FULL);
        dueAndEmpty("", 0, 1);
        s.freshWithLabels(60);
        dueAndEmpty("t", 0, Sheet.FULL);
    }

    private static void sorts() {
        s.sentence("of a sort 0, 2, 3, 4");
        int[] good = {0, 2, 3, 4};
        for (int i = 0; i < good.length; i++) {
            s.due("literal(" + good[i] + ")", s.text("t", good[i]), i);
            s.due("its sort", s.x.sort(i), good[i]);
        }
    }

    private static void itsTerm() {
        s.sentence("as a literal's text, of a sort 0, 2, 3, 4: its term");
        s.due("an empty tape", s.text("", 0), 0);
        s.due("a text", s.text("t", 0), 1);
        s.due("an empty tape again", s.text("", 0), 0);
        s.due("the text again", s.text("t", 0), 1);
        s.due("a number of sort 2", s.text("x", 2), 2);
        s.due("a truth of sort 3", s.text("x", 3), 3);
        s.due("all other bytes stand for themselves", s.shown(s.text("<>^`{|} %4#", 0), 0), "\"<>^`{|} %4#\"");
    }

    /** A text of one byte, told by another writing of it: they are one. */
    private static void dueMeans(String written, int meant) {
        int term = s.text(written, 0);
        s.due(written + " and its byte", s.text(String.format("\\u%04x", meant), 0), term);
        s.due(written + " between others", s.text("a" + written + "b", 0), s.text(String.format("a\\u%04xb", meant), 0));
    }

    private static void shortEscapes() {
        s.sentence("In it \\t \\n \\r \\\" \\\\ stand for the bytes 9, 10, 13 and those two");
        dueMeans("\\t", 9);
        dueMeans("\\n", 10);
        dueMeans("\\r", 13);
        dueMeans("\\\"", '"');
        dueMeans("\\\\", '\\');
        s.due("terms", s.x.count(0), 10);
        s.due("a \\ and a letter", s.shown(s.text("\\\\t", 0), 0), "\"\\\\t\"");
        s.due("two of \\", s.shown(s.text("\\\\\\\\", 0), 0), "\"\\\\\\\\\"");
        s.due("a \\ and a \"", s.shown(s.text("\\\\\\\"", 0), 0), "\"\\\\\\\"\"");
    }

    private static void longEscapes() {
        s.sentence("a \\, the letter u and four digits with 16 (both sizes) for the byte that they tell");
        s.due("A", s.shown(s.text("\\u0041", 0), 0), "\"A\"");
        s.due("the least", s.shown(s.text("\\u0009", 0), 0), "\"\\t\"");
        s.due("the greatest", s.shown(s.text("\\u007e", 0), 0), "\"~\"");
        s.due("digits behind it", s.shown(s.text("\\u004142", 0), 0), "\"A42\"");
        s.due("two of them", s.shown(s.text("\\u0041\\u0042", 0), 0), "\"AB\"");
        s.due("a \" by it", s.shown(s.text("\\u0022", 0), 0), "\"\\\"\"");
        s.due("a \\ by it begins nothing", s.shown(s.text("\\u005cn", 0), 0), "\"\\\\n\"");
        s.due("a \\ before it", s.shown(s.text("\\\\u0041", 0), 0), "\"\\\\u0041\"");
        for (int length = 2; length < 6; length++) {
            s.due("too early an end", s.text("\\u0041".substring(0, length), 0), -10);
            s.due("another byte instead", s.text("\\u0041".substring(0, length) + "x", 0), -10);
        }
        s.due("a great U", s.text("\\U0041", 0), -10);
    }

    private static void bothSizes() {
        s.sentence("four digits with 16 (both sizes)");
        for (int b = 32; b <= 126; b++) {
            if (b % 24 == 0) {
                s.fresh();
            }
            boolean good = b >= '0' && b <= '9' || b >= 'A' && b <= 'F' || b >= 'a' && b <= 'f';
            String text = "\\u004" + (char) b;
            s.due(text, Math.min(s.text(text, 0), 0), good ? 0 : -10);
            text = "\\u00" + (char) b + "1";
            boolean goodByte = b >= '2' && b <= '7';
            s.due(text, Math.min(s.text(text, 0), 0), goodByte ? 0 : -10);
        }
        s.fresh();
        s.due("small and great", s.text("\\u006a\\u006f", 0), s.text("\\u006A\\u006F", 0));
        s.due("j and o", s.shown(0, 0), "\"jo\"");
    }

    private static void oneThatATextMayHave() {
        s.sentence("(one that a text may have)");
        for (int told : new int[] {0, 8, 11, 12, 14, 31, 127, 128, 255, 256, 265, 266, 288, 321, 0x1041, 0x4100, 0x8041, 0xFFFF}) {
            s.due("told " + told, s.text(String.format("\\u%04X", told), 0), -10);
            s.due("told behind others " + told, s.text(String.format("ab\\u%04X", told), 0), -12);
        }
        s.due("no term came", s.x.count(0), 0);
        for (int told : new int[] {9, 10, 13, 32, 126}) {
            s.due("told " + told, Math.min(s.text(String.format("\\u%04X", told), 0), 0), 0);
        }
    }

    private static void anotherSort() {
        s.sentence("BAD: another sort");
        for (int sort : new int[] {1, 5, 6, -1, -2, Integer.MIN_VALUE, Integer.MAX_VALUE}) {
            s.due("literal(" + sort + ")", s.text("t", sort), Sheet.BAD);
            s.due("of a wrong text", s.text("\"", sort), Sheet.BAD);
            s.due("of a long text", s.text("t".repeat(41), sort), Sheet.BAD);
        }
        s.due("no term came", s.x.count(0), 0);
        s.freshWithLabels(60);
        s.due("literal(1) where there is no room", s.text("t", 1), Sheet.BAD);
    }

    private static void wrongPlace() {
        s.sentence("-10 less the place of the first byte that can't be");
        for (int place = 0; place < 96; place += 5) {
            s.due("a \" at " + place, s.text("t".repeat(place) + "\"", 0), -10 - place);
            s.due("a \\ at " + place, s.text("t".repeat(place) + "\\", 0), -10 - place);
        }
        s.due("places are the tape's", s.text("\\t\\u0041\"", 0), -18);
        s.due("no term came", s.x.count(0), 0);
    }

    private static void backslashThatBeginsNone() {
        s.sentence("a \\ that begins none of these");
        for (int b = 32; b <= 126; b++) {
            if (b % 40 == 0) {
                s.fresh();
            }
            boolean good = "tnr\"\\".indexOf(b) >= 0;
            s.due("\\" + (char) b, Math.min(s.text("ab\\" + (char) b, 0), 0), good ? 0 : -12);
        }
        s.fresh();
        s.due("at the end", s.text("\\", 0), -10);
        s.due("behind two that are one", s.text("\\\\\\", 0), -12);
        s.due("at the end of a full tape", s.text("\\u0041".repeat(15) + "tttt\\u", 0), -104);
    }

    private static void quoteWithoutIt() {
        s.sentence("a \" without it");
        s.due("alone", s.text("\"", 0), -10);
        s.due("behind a \\ of another", s.text("\\\\\"", 0), -12);
        s.due("behind one with it", s.text("\\\"\"", 0), -12);
        s.due("with it", s.shown(s.text("\\\"", 0), 0), "\"\\\"\"");
        s.due("in the digits the \\ is the first", s.text("t\\u00\"4", 0), -11);
    }

    private static void firstOfSeveral() {
        s.sentence("the first byte that can't be");
        s.due("two", s.text("a\"b\"", 0), -11);
        s.due("\" before \\", s.text("a\"\\x", 0), -11);
        s.due("\\ before \"", s.text("a\\x\"", 0), -11);
        s.due("a wrong one before a long text's end", s.text("\"" + "t".repeat(60), 0), -10);
        s.due("a wrong one behind a long text's end", s.text("t".repeat(60) + "\"", 0), -70);
    }

    private static void tooLong() {
        s.sentence("FULL: the text would have more than 40 bytes");
        s.due("40", s.text("t".repeat(40), 0), 0);
        s.due("41", s.text("t".repeat(41), 0), Sheet.FULL);
        s.due("96", s.text("t".repeat(96), 0), Sheet.FULL);
        s.due("40 by escapes", s.text("\\\\".repeat(40), 0), 1);
        s.due("41 by escapes", s.text("\\\\".repeat(41), 0), Sheet.FULL);
        s.due("48 by escapes", s.text("\\\"".repeat(48), 0), Sheet.FULL);
        s.due("of the 41 none is there", s.x.count(0), 2);
        s.due("40 again", s.text("t".repeat(40), 0), 0);
    }

    private static void sixtyFirst() {
        s.sentence("FULL: the text would have more than 40 bytes, or be the 61st term");
        s.freshWithLabels(59);
        s.due("60th", s.text("t", 0), 59);
        s.due("61st", s.text("u", 0), Sheet.FULL);
        s.due("61st, of another sort", s.text("t", 2), Sheet.FULL);
        s.due("61st, empty", s.text("", 0), Sheet.FULL);
        s.due("one there is", s.text("t", 0), 59);
        s.due("one there is, by an escape", s.text("\\u0074", 0), 59);
        s.due("a wrong byte", s.text("u\"", 0), -11);
        s.due("terms", s.x.count(0), 60);
    }
}
