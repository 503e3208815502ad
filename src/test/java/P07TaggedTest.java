/** Promise 7: tagged. */
public final class P07TaggedTest {
    private static final Sheet s = new Sheet();

    public static void main(String[] args) {
        goodTags();
        wrongTags();
        wrongTerms();
        full();
        s.end();
    }

    private static void goodTags() {
        s.text("x\\t", 0);
        String[] good = {
            "en", "EN-gb", "abcdefgh", "abcdefgh-1234567", "ab-1", "ab-1-2-3-4-5-6-7", "zz-A1b2C3d4", "AZaz-AZaz-0-9",
        };
        for (int i = 0; i < good.length; i++) {
            int term = s.tag(good[i], 0);
            s.due(good[i], term, i + 1);
            s.due("tape", s.x.count(2), 0);
            s.due("its print", s.shown(term, 0), "\"x\\t\"@" + good[i].toLowerCase());
            s.due("its sort", s.x.sort(term), 1);
            s.due("again", s.tag(good[i].toUpperCase(), 0), i + 1);
        }
        s.text("y", 0);
        s.due("the same tag, another text", s.tag("en", good.length + 1), good.length + 2);
    }

    private static void dueWrong(String tag, int place) {
        s.due("tag " + tag, s.tag(tag, 0), -10 - place);
        s.due("tape", s.x.count(2), 0);
    }

    private static void wrongTags() {
        s.fresh();
        s.text("x", 0);
        dueWrong("", 0);
        dueWrong("e", 1);
        dueWrong("en-", 3);
        dueWrong("en-a-", 5);
        dueWrong("e-", 1);
        dueWrong("-", 0);
        dueWrong("-en", 0);
        dueWrong("en--a", 3);
        dueWrong("e1", 1);
        dueWrong("en1", 2);
        dueWrong("1n", 0);
        dueWrong("en_a", 2);
        dueWrong("en a", 2);
        dueWrong("en-a_", 4);
        dueWrong("en-\\", 3);
        dueWrong("e@", 1);
        dueWrong("e[", 1);
        dueWrong("e`", 1);
        dueWrong("e{", 1);
        dueWrong("en-/", 3);
        dueWrong("en-:", 3);
        dueWrong("abcdefghi", 8);
        dueWrong("abcdefgh1", 8);
        dueWrong("en-abcdefghi", 11);
        dueWrong("en-123456789-1", 11);
        dueWrong("abcdefgh-abcdef-", 16);
        dueWrong("abcdefgh-abcdef-a", 16);
        dueWrong("abcdefgh-abcdefgh", 16);
        dueWrong("abcdefgh-abcdefg_", 16);
        dueWrong("abcdefgh-abcde_fg", 14);
        dueWrong("en-a-a-a-a-a-a-a-a-a-a-a-a", 16);
        dueWrong("a".repeat(96), 8);
        s.due("no terms came", s.x.count(0), 1);
    }

    private static void wrongTerms() {
        s.fresh();
        s.text("x", 0);
        s.tag("en", 0);
        s.text("x", 2);
        s.text("x", 3);
        s.text("x", 4);
        s.x.label(1);
        s.address("a:b");
        int[] wrong = {1, 2, 3, 4, 5, 6, 7, -1, 60, Integer.MIN_VALUE, Integer.MAX_VALUE};
        for (int a : wrong) {
            s.due("tagged(" + a + ")", s.tag("de", a), Sheet.BAD);
            s.due("tape", s.x.count(2), 0);
            s.due("tagged(" + a + ") of a wrong tag", s.tag("d", a), Sheet.BAD);
        }
        s.due("terms", s.x.count(0), 7);
    }

    private static void full() {
        s.freshWithLabels(58);
        s.text("x", 0);
        s.due("60th", s.tag("en", 58), 59);
        s.due("61st", s.tag("de", 58), Sheet.FULL);
        s.due("tape", s.x.count(2), 0);
        s.due("one there is", s.tag("en", 58), 59);
        s.due("wrong", s.tag("d", 58), -11);
    }
}
