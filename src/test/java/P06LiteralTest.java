/** Promise 6: literal. */
public final class P06LiteralTest {
    private static final Sheet s = new Sheet();

    public static void main(String[] args) {
        sorts();
        escapes();
        wrongBytes();
        full();
        s.end();
    }

    private static void sorts() {
        s.due("plain", s.text("a", 0), 0);
        s.due("whole", s.text("a", 2), 1);
        s.due("truth", s.text("a", 3), 2);
        s.due("other", s.text("a", 4), 3);
        s.due("plain again", s.text("a", 0), 0);
        s.due("other again", s.text("a", 4), 3);
        s.due("empty", s.text("", 0), 4);
        s.due("longer", s.text("ab", 0), 5);
        int[] wrong = {1, 5, -1, Integer.MIN_VALUE, Integer.MAX_VALUE};
        for (int sort : wrong) {
            s.due("sort " + sort, s.text("a", sort), Sheet.BAD);
            s.due("tape", s.x.count(2), 0);
            s.due("sort " + sort + " before a wrong byte", s.text("\"", sort), Sheet.BAD);
        }
        s.due("terms", s.x.count(0), 6);
    }

    private static void dueText(String written, String want) {
        int term = s.text(written, 0);
        s.due(written, term < 0 ? Integer.toString(term) : s.shown(term, 0), "\"" + want + "\"");
        s.due("tape", s.x.count(2), 0);
    }

    private static void escapes() {
        s.fresh();
        dueText("a\\tb\\nc\\rd\\\"e\\\\f", "a\\tb\\nc\\rd\\\"e\\\\f");
        dueText("\\u0041\\u007e\\u007E\\u0020", "A~~ ");
        dueText("\\u0009\\u000a\\u000A\\u000d\\u000D", "\\t\\n\\n\\r\\r");
        dueText("\\u0022\\u005c\\u005C", "\\\"\\\\\\\\");
        dueText("\\u00410", "A0");
        dueText("\\\\u0041", "\\\\u0041");
        dueText("\\\\\\\\", "\\\\\\\\");
        dueText("<>^`{|} %", "<>^`{|} %");
        s.due("an escape is one with its byte", s.text("\\u0041", 0), s.text("A", 0));
        s.due("tabs are one", s.text("\\t", 0), s.text("\\u0009", 0));
    }

    private static void wrongBytes() {
        s.fresh();
        String[] wrong = {
            "\\", "\\T", "\\N", "\\R", "\\x", "\\U0041", "\\ ", "\\'", "\\b", "\\f", "\\0", "\\u", "\\u0", "\\u00", "\\u004",
            "\\u004g", "\\ug041", "\\u0g41", "\\u00g1", "\\u004G", "\\u0000", "\\u0008", "\\u000b", "\\u000C", "\\u000e",
            "\\u001f", "\\u007f", "\\u0080", "\\u00ff", "\\u0141", "\\u1041", "\\uFFFF", "\\u004\"", "\"",
        };
        for (String text : wrong) {
            s.due(text, s.text(text, 0), -10);
            s.due("tape", s.x.count(2), 0);
            s.due("ab" + text, s.text("ab" + text, 2), -12);
            s.due("\\t" + text, s.text("\\t" + text, 3), -12);
            s.due("\\u0041" + text + "x\"", s.text("\\u0041" + text + "x\"", 4), -16);
        }
        s.due("no terms", s.x.count(0), 0);
        s.due("the last byte", s.text("a".repeat(95) + "\"", 0), -105);
        s.due("the last byte", s.text("a".repeat(95) + "\\", 0), -105);
    }

    private static void full() {
        s.fresh();
        s.due("40 bytes", s.text("a".repeat(40), 0), 0);
        s.due("41 bytes", s.text("a".repeat(41), 0), Sheet.FULL);
        s.due("tape", s.x.count(2), 0);
        s.due("40 by escapes", s.text("\\t".repeat(40), 0), 1);
        s.due("its print", s.x.print(1, 0), 82);
        s.due("41 by escapes", s.text("\\t".repeat(41), 0), Sheet.FULL);
        s.due("96 bytes", s.text("b".repeat(96), 0), Sheet.FULL);
        s.due("16 by long escapes", s.text("\\u0041".repeat(16), 0), 2);
        s.due("terms", s.x.count(0), 3);

        s.freshWithLabels(59);
        s.due("60th", s.text("a", 0), 59);
        s.due("61st", s.text("a", 2), Sheet.FULL);
        s.due("tape", s.x.count(2), 0);
        s.due("one there is", s.text("a", 0), 59);
        s.due("wrong", s.text("\"", 0), -10);
        s.due("wrong sort", s.text("a", 1), Sheet.BAD);
    }
}
