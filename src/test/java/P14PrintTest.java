/** Promise 14: print. */
public final class P14PrintTest {
    private static final Sheet s = new Sheet();

    public static void main(String[] args) {
        longForm();
        shortForm();
        whichPrefix();
        wrongCalls();
        s.end();
    }

    private static void dueBoth(int term, String want) {
        s.due("print(" + term + ", 0)", s.shown(term, 0), want);
        s.due("print(" + term + ", 1)", s.shown(term, 1), want);
    }

    private static void longForm() {
        dueBoth(s.address("a:b?c#d"), "<a:b?c#d>");
        dueBoth(s.x.label(0), "_:b0");
        dueBoth(s.x.label(7), "_:b7");
        dueBoth(s.x.label(9), "_:b9");
        dueBoth(s.x.label(10), "_:b10");
        dueBoth(s.x.label(99), "_:b99");
        dueBoth(s.x.label(100), "_:b100");
        dueBoth(s.x.label(305), "_:b305");
        dueBoth(s.x.label(999), "_:b999");
        int plain = s.text("x\\ty\\nz\\r\\\"\\\\ '", 0);
        dueBoth(plain, "\"x\\ty\\nz\\r\\\"\\\\ '\"");
        dueBoth(s.text("", 0), "\"\"");
        dueBoth(s.tag("EN-a1", plain), "\"x\\ty\\nz\\r\\\"\\\\ '\"@en-a1");
        dueBoth(s.text("5", 2), "\"5\"^^whole");
        dueBoth(s.text("true", 3), "\"true\"^^truth");
        dueBoth(s.text("z", 4), "\"z\"^^other");
        s.fresh();
        String row = "\\n".repeat(40);
        int longest = s.text(row, 0);
        dueBoth(s.tag("abcdefgh-1234567", longest), "\"" + row + "\"@abcdefgh-1234567");
        dueBoth(s.text(row, 4), "\"" + row + "\"^^other");
    }

    private static void freshWithPrefix() {
        s.fresh();
        s.due("prefix", s.name("abcdef", s.address("s://h/p/")), 1);
    }

    private static void shortForm() {
        freshWithPrefix();
        String[] good = {"", "a", "Az09_-", "-", "_", "9", "zzzzzzzzzzzzzzzzzzzzzzzzzzzz"};
        for (String left : good) {
            int term = s.address("s://h/p/" + left);
            s.due("short of " + left, s.shown(term, 1), "abcdef:" + left);
            s.due("long of " + left, s.shown(term, 0), "<s://h/p/" + left + ">");
        }
        freshWithPrefix();
        String[] wrong = {"a/", "a/b", "?", "#a", "a.b", "a:", "%41", "a~", "@", "[", "a=", "/", ";"};
        for (String left : wrong) {
            s.due("not short: " + left, s.shown(s.address("s://h/p/" + left), 1), "<s://h/p/" + left + ">");
        }
        s.due("only its beginning", s.shown(s.address("s://h/p"), 1), "<s://h/p>");
        s.due("another of that length", s.shown(s.address("s://h/q/"), 1), "<s://h/q/>");
        s.due("another beginning", s.shown(s.address("S://h/p/a"), 1), "<S://h/p/a>");
        s.due("a literal with those bytes", s.shown(s.text("s://h/p/a", 0), 1), "\"s://h/p/a\"");
        s.due("a label", s.shown(s.x.label(3), 1), "_:b3");
    }

    private static void whichPrefix() {
        s.fresh();
        int shorter = s.address("s:");
        int longer = s.address("s:ab");
        int far = s.address("s:ab/");
        int term = s.address("s:abc");
        s.due("none", s.shown(term, 1), "<s:abc>");
        s.name("a", shorter);
        s.due("the only one", s.shown(term, 1), "a:abc");
        s.name("z", longer);
        s.due("the longer one", s.shown(term, 1), "z:c");
        s.name("m", longer);
        s.due("the first name", s.shown(term, 1), "m:c");
        s.name("n", longer);
        s.due("still the first name", s.shown(term, 1), "m:c");
        s.name("mm", longer);
        s.due("the beginning is first", s.shown(term, 1), "m:c");
        s.name("", shorter);
        s.due("the longer one still", s.shown(term, 1), "m:c");
        s.due("of itself", s.shown(longer, 1), "m:");
        s.due("the shorter one by the empty name", s.shown(shorter, 1), ":");
        s.name("b", far);
        s.due("one that is no beginning", s.shown(term, 1), "m:c");
        s.name("m", shorter);
        s.due("m is another's now", s.shown(term, 1), "mm:c");
        s.name("", longer);
        s.due("the empty name is first", s.shown(term, 1), ":c");
        s.due("far", s.shown(far, 1), "b:");
        s.due("what is left has a /", s.shown(s.address("s:abd/e"), 1), "<s:abd/e>");
    }

    private static void wrongCalls() {
        s.fresh();
        s.due("print(0, 0) of nothing", s.x.print(0, 0), Sheet.BAD);
        s.x.label(42);
        s.due("print(0, 0)", s.x.print(0, 0), 5);
        for (int a : new int[] {1, -1, 60, Integer.MIN_VALUE, Integer.MAX_VALUE}) {
            s.due("print(" + a + ", 0)", s.x.print(a, 0), Sheet.BAD);
            s.due("print(" + a + ", 1)", s.x.print(a, 1), Sheet.BAD);
        }
        for (int form : new int[] {2, -1, Integer.MIN_VALUE, Integer.MAX_VALUE}) {
            s.due("print(0, " + form + ")", s.x.print(0, form), Sheet.BAD);
        }
        s.due("what was printed stays", s.x.at(4), '2');
    }
}
