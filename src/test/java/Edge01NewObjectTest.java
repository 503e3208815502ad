/** Promise 1, one method a sentence. */
public final class Edge01NewObjectTest {
    private static final Sheet s = new Sheet();

    public static void main(String[] args) {
        emptyTape();
        noTerms();
        noBase();
        noPrefixes();
        nothingPrinted();
        s.end();
    }

    private static void emptyTape() {
        s.sentence("An empty tape");
        s.due("count(2)", s.x.count(2), 0);
        s.due("the first byte", s.x.type('a', 1), 1);
        s.fresh();
        s.due("the text on it", s.shown(s.x.literal(0), 0), "\"\"");
    }

    private static void noTerms() {
        s.sentence("no terms");
        s.due("count(0)", s.x.count(0), 0);
        for (int a : new int[] {0, 1, 59, 60, -1}) {
            s.due("kind(" + a + ")", s.x.kind(a), Sheet.BAD);
            s.due("sort(" + a + ")", s.x.sort(a), Sheet.BAD);
            s.due("part(" + a + ", 2)", s.x.part(a, 2), Sheet.BAD);
            s.due("alike(" + a + ", " + a + ")", s.x.alike(a, a), Sheet.BAD);
            s.due("compare(" + a + ", " + a + ")", s.x.compare(a, a), Sheet.NO);
            s.due("print(" + a + ", 0)", s.x.print(a, 0), Sheet.BAD);
            s.due("tagged(" + a + ")", s.tag("en", a), Sheet.BAD);
            s.due("prefix(" + a + ")", s.name("p", a), Sheet.BAD);
        }
        s.due("base(0)", s.x.base(0), Sheet.BAD);
        s.due("the first term", s.x.label(0), 0);
    }

    private static void noBase() {
        s.sentence("no base");
        s.due("no scheme", s.address("a"), Sheet.NO);
        s.due("an empty one", s.address(""), Sheet.NO);
        s.dueResolved("a:b/../c", "a:b/../c");
        s.due("the first term is no base", s.address("a"), Sheet.NO);
    }

    private static void noPrefixes() {
        s.sentence("no prefixes");
        s.due("count(1)", s.x.count(1), 0);
        s.due("short form", s.shown(s.address("a:b"), 1), "<a:b>");
        s.due("a name is new", s.name("", 0), 1);
    }

    private static void nothingPrinted() {
        s.sentence("nothing was printed");
        for (int i : new int[] {0, 1, -1, 95, 107, Integer.MIN_VALUE, Integer.MAX_VALUE}) {
            s.due("at(" + i + ")", s.x.at(i), Sheet.NO);
        }
    }
}
