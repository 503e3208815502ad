import java.util.function.IntSupplier;

/** The section 'Not promised', from its other side: no call changes more than its promise says. */
public final class EdgeStateTest {
    private static final String WORDS = "Nothing is promised beyond the answers and state changes described above";
    private static final Sheet s = new Sheet();

    public static void main(String[] args) {
        questionsChangeNothing();
        refusedCallsChangeNothing();
        refusedReadersEmptyTheTape();
        likeOnesChangeNothing();
        printChangesThePrintedBytesOnly();
        baseChangesTheBaseOnly();
        objectsAreApart();
        s.end();
    }

    /** Something of all that an object can hold. */
    private static void setUp() {
        s.freshWithBase("a:/b/");
        s.x.label(7);
        s.text("t", 0);
        s.tag("en", 2);
        s.text("01", 2);
        s.address("c");
        s.name("p", 0);
        s.x.print(5, 1);
        s.put("ab");
    }

    /** All that an object tells of itself; it is used up by that. */
    private static String picture() {
        StringBuilder all = new StringBuilder();
        for (int what = 0; what < 3; what++) {
            all.append(s.x.count(what)).append(' ');
        }
        for (int i = 0; i < 10; i++) {
            all.append(s.x.at(i)).append(' ');
        }
        all.append(s.shown(s.x.literal(4), 0));
        int terms = s.x.count(0);
        for (int a = 0; a < terms; a++) {
            all.append(' ').append(s.shown(a, 0)).append(' ').append(s.shown(a, 1));
        }
        return all.append(' ').append(s.shown(s.address("d"), 0)).toString();
    }

    private static String untouched() {
        setUp();
        return picture();
    }

    private static void dueUntouched(String call, IntSupplier made, int want) {
        String before = untouched();
        setUp();
        s.due(call, made.getAsInt(), want);
        s.due("the object behind " + call, picture(), before);
    }

    private static void questionsChangeNothing() {
        s.sentence(WORDS);
        dueUntouched("part(0, 0)", () -> s.x.part(0, 0), 1);
        dueUntouched("part(0, 2)", () -> s.x.part(0, 2), 3);
        dueUntouched("part(0, 3)", () -> s.x.part(0, 3), Sheet.NO);
        dueUntouched("kind(1)", () -> s.x.kind(1), 1);
        dueUntouched("sort(3)", () -> s.x.sort(3), 1);
        dueUntouched("alike(4, 4)", () -> s.x.alike(4, 4), 1);
        dueUntouched("alike(4, 2)", () -> s.x.alike(4, 2), 0);
        dueUntouched("compare(0, 5)", () -> s.x.compare(0, 5), -1);
        dueUntouched("at(0)", () -> s.x.at(0), 'p');
        dueUntouched("at(3)", () -> s.x.at(3), Sheet.NO);
        dueUntouched("count(0)", () -> s.x.count(0), 6);
        dueUntouched("count(1)", () -> s.x.count(1), 1);
        dueUntouched("count(2)", () -> s.x.count(2), 2);
    }

    private static void refusedCallsChangeNothing() {
        s.sentence(WORDS);
        dueUntouched("type(97, 0)", () -> s.x.type('a', 0), Sheet.BAD);
        dueUntouched("type(97, 9)", () -> s.x.type('a', 9), Sheet.BAD);
        dueUntouched("type(97 << 8 | 31, 2)", () -> s.x.type('a' << 8 | 31, 2), Sheet.BAD);
        dueUntouched("type(31 << 8 | 97, 2)", () -> s.x.type(31 << 8 | 'a', 2), Sheet.BAD);
        dueUntouched("base(1)", () -> s.x.base(1), Sheet.BAD);
        dueUntouched("base(2)", () -> s.x.base(2), Sheet.BAD);
        dueUntouched("base(6)", () -> s.x.base(6), Sheet.BAD);
        dueUntouched("base(-2)", () -> s.x.base(-2), Sheet.BAD);
        dueUntouched("label(-1)", () -> s.x.label(-1), Sheet.BAD);
        dueUntouched("label(1000)", () -> s.x.label(1000), Sheet.BAD);
        dueUntouched("part(1, 0)", () -> s.x.part(1, 0), Sheet.BAD);
        dueUntouched("part(0, 5)", () -> s.x.part(0, 5), Sheet.BAD);
        dueUntouched("kind(6)", () -> s.x.kind(6), Sheet.BAD);
        dueUntouched("sort(0)", () -> s.x.sort(0), Sheet.BAD);
        dueUntouched("alike(0, 6)", () -> s.x.alike(0, 6), Sheet.BAD);
        dueUntouched("compare(6, 0)", () -> s.x.compare(6, 0), Sheet.NO);
        dueUntouched("print(6, 0)", () -> s.x.print(6, 0), Sheet.BAD);
        dueUntouched("print(0, 2)", () -> s.x.print(0, 2), Sheet.BAD);
        dueUntouched("at(-1)", () -> s.x.at(-1), Sheet.NO);
        dueUntouched("count(3)", () -> s.x.count(3), Sheet.BAD);
    }

    private static void dueOnlyEmptied(String call, IntSupplier made, int want) {
        setUp();
        s.due("literal(1)", s.x.literal(1), Sheet.BAD);
        String emptied = picture();
        setUp();
        s.due(call, made.getAsInt(), want);
        s.due("the object behind " + call, picture(), emptied);
    }

    private static void refusedReadersEmptyTheTape() {
        s.sentence("The tape, which is empty then whatever the answer");
        dueOnlyEmptied("resolve() of ab<", () -> s.address("<"), -12);
        dueOnlyEmptied("resolve() of a full tape", () -> s.address("/" + "c".repeat(92) + "<"), -105);
        dueOnlyEmptied("resolve() to 101 bytes", () -> s.address("/" + "c".repeat(93)), Sheet.FULL);
        dueOnlyEmptied("literal(5)", () -> s.x.literal(5), Sheet.BAD);
        dueOnlyEmptied("literal(0) of ab\"", () -> s.text("\"", 0), -12);
        dueOnlyEmptied("literal(0) of a long one", () -> s.text("c".repeat(39), 0), Sheet.FULL);
        dueOnlyEmptied("tagged(1)", () -> s.x.tagged(1), Sheet.BAD);
        dueOnlyEmptied("tagged(3)", () -> s.x.tagged(3), Sheet.BAD);
        dueOnlyEmptied("tagged(2) of ab_", () -> s.tag("_", 2), -12);
        dueOnlyEmptied("tagged(2) of ab-", () -> s.tag("-", 2), -13);
        dueOnlyEmptied("prefix(1)", () -> s.x.prefix(1), Sheet.BAD);
        dueOnlyEmptied("prefix(0) of abA", () -> s.name("A", 0), Sheet.BAD);
        dueOnlyEmptied("prefix(0) of abcdefg", () -> s.name("cdefg", 0), Sheet.BAD);
    }

    private static void likeOnesChangeNothing() {
        s.sentence("like ones are one");
        dueUntouched("label(7)", () -> s.x.label(7), 1);
        dueOnlyEmptied("resolve() of a:/b/", () -> emptiedThen(() -> s.address("a:/b/")), 0);
        dueOnlyEmptied("resolve() of c", () -> emptiedThen(() -> s.address("c")), 5);
        dueOnlyEmptied("literal(0) of t", () -> emptiedThen(() -> s.text("t", 0)), 2);
        dueOnlyEmptied("tagged(2) of EN", () -> emptiedThen(() -> s.tag("EN", 2)), 3);
        dueOnlyEmptied("literal(2) of 01", () -> emptiedThen(() -> s.text("01", 2)), 4);
        dueOnlyEmptied("prefix(0) of p", () -> emptiedThen(() -> s.name("p", 0)), 0);
    }

    private static int emptiedThen(IntSupplier made) {
        s.x.literal(1);
        return made.getAsInt();
    }

    private static void printChangesThePrintedBytesOnly() {
        s.sentence("A term is printed: how many bytes");
        String before = untouched();
        setUp();
        s.due("print(4, 0)", s.x.print(4, 0), 11);
        s.due("its first byte", s.x.at(0), '"');
        s.due("print(5, 1)", s.x.print(5, 1), 3);
        s.due("the object behind both", picture(), before);
    }

    private static void baseChangesTheBaseOnly() {
        s.sentence("An address is the base from now on, or none is (-1)");
        String before = untouched();
        setUp();
        s.due("base(5)", s.x.base(5), 1);
        s.due("base(-1)", s.x.base(-1), 1);
        s.due("base(0)", s.x.base(0), 1);
        s.due("the object behind all", picture(), before);
    }

    /** What one object is told another one does not know, and the same calls have the same answers. */
    private static void objectsAreApart() {
        s.sentence(WORDS);
        setUp();
        Counted first = s.x;
        String before = untouched();
        s.fresh();
        s.dueCounts(0, 0, 0);
        s.due("nothing was printed", s.x.at(0), Sheet.NO);
        s.due("there is no base", s.address("c"), Sheet.NO);
        s.due("another base", s.address("z:"), 0);
        s.x.base(0);
        s.name("q", 0);
        s.put("zzzz");
        s.x = first;
        s.due("the first object behind all", picture(), before);
    }
}
