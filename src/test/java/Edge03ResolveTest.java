/** Promise 3, one method a sentence. */
public final class Edge03ResolveTest {
    private static final Sheet s = new Sheet();

    public static void main(String[] args) {
        emptyThen();
        ifThereIsABase();
        itsTerm();
        wrongPlace();
        firstOfSeveral();
        wrongPercent();
        no();
        noOnlyWithoutBase();
        tooLong();
        longButPlain();
        longOfEachPart();
        sixtyFirst();
        refusedLeavesAll();
        s.end();
    }

    private static void emptyThen() {
        s.sentence("The tape, which is empty then whatever the answer");
        dueAndEmpty("a:b", 0);
        dueAndEmpty("a:b", 0);
        dueAndEmpty("b", Sheet.NO);
        dueAndEmpty("", Sheet.NO);
        dueAndEmpty("<", -10);
        dueAndEmpty("a:" + "b".repeat(94), 1);
        s.x.base(1);
        dueAndEmpty("#" + "f".repeat(95), Sheet.FULL);
        s.freshWithLabels(60);
        dueAndEmpty("a:b", Sheet.FULL);
    }

    private static void dueAndEmpty(String reference, int want) {
        s.due("resolve() of " + reference, s.address(reference), want);
        s.due("bytes on the tape", s.x.count(2), 0);
        s.due("the next byte", s.x.type('a', 1), 1);
        s.x.literal(-1);
    }

    private static void ifThereIsABase() {
        s.sentence("resolved, if there is a base (else as it is)");
        s.dueFrom(null, "a://h/./b/../c?q#f", "a://h/./b/../c?q#f");
        s.dueFrom(null, "a:..", "a:..");
        s.dueFrom("x:y", "a://h/./b/../c?q#f", "a://h/c?q#f");
        s.dueFrom("x:y", "a:..", "a:");
        s.x.base(-1);
        s.dueResolved("a:..", "a:..");
    }

    private static void itsTerm() {
        s.sentence("resolved, if there is a base (else as it is): its term");
        s.due("first", s.address("a:/b"), 0);
        s.due("second", s.address("a:/c"), 1);
        s.due("first again", s.address("a:/b"), 0);
        s.x.base(1);
        s.due("first by another way", s.address("b"), 0);
        s.due("second by another way", s.address(""), 1);
        s.due("a new one", s.address("d"), 2);
    }

    private static void wrongPlace() {
        s.sentence("-10 less the place of the first byte (from 0) that can't be");
        for (int place = 0; place < 96; place++) {
            if (place % 24 == 0) {
                s.fresh();
            }
            String good = ("a:" + "b".repeat(95)).substring(0, place);
            s.due("wrong at " + place, s.address(good + "<"), -10 - place);
        }
        s.freshWithBase("a:b");
        s.due("with a base", s.address("bc^"), -12);
        s.due("with a base, far", s.address("b".repeat(95) + "|"), -105);
        s.due("a space", s.address("a: "), -12);
        s.due("in an authority", s.address("//h{"), -13);
        s.due("in a query", s.address("?q}"), -12);
        s.due("in a fragment", s.address("#`"), -11);
    }

    private static void firstOfSeveral() {
        s.sentence("-10 less the place of the first byte (from 0) that can't be");
        s.due("two", s.address("a:b<c>"), -13);
        s.due("all", s.address("<<<"), -10);
        s.due("a % behind", s.address("a:<%"), -12);
        s.due("a % before", s.address("a:%<"), -12);
        s.due("a % with a wrong byte for its second", s.address("a:%4<"), -12);
        s.due("a good % before", s.address("a:%41<"), -15);
    }

    private static void wrongPercent() {
        s.sentence("(of a % without its two that)");
        s.due("at the beginning", s.address("%"), -10);
        s.due("at the end", s.address("a:b%"), -13);
        s.due("with one", s.address("a:b%4"), -13);
        s.due("with a wrong first", s.address("a:b%x4"), -13);
        s.due("with a wrong second", s.address("a:b%4x"), -13);
        s.due("with another %", s.address("a:b%%41"), -13);
        s.due("with one and another %", s.address("a:b%4%41"), -13);
        s.due("the second one", s.address("a:b%41%"), -16);
        s.due("the last byte of a full tape", s.address("a:" + "b".repeat(93) + "%"), -105);
        s.due("a good one", s.address("a:b%4f"), 0);
    }

    private static void no() {
        s.sentence("NO: there is no base, and it has no scheme");
        for (String reference : new String[] {"", "b", "/b", "//h", "?q", "#f", ".", "..", "1:b", "b/c:d", "b".repeat(96)}) {
            s.due("resolve() of " + reference, s.address(reference), Sheet.NO);
        }
        s.due("no term came", s.x.count(0), 0);
        s.due("a wrong byte is told first", s.address("b<"), -11);
        s.due("with a scheme", s.address("b:"), 0);
    }

    private static void noOnlyWithoutBase() {
        s.sentence("NO: there is no base");
        s.freshWithBase("a:b");
        s.due("the base again", s.address(""), 0);
        s.due("another", s.address("c"), 1);
        s.x.base(-1);
        s.due("the base is gone", s.address("c"), Sheet.NO);
        s.freshWithLabels(60);
        s.due("no base before no room", s.address("c"), Sheet.NO);
    }

    private static void tooLong() {
        s.sentence("FULL: it would have more than 100 bytes");
        s.freshWithBase("a://hhhh/" + "b".repeat(86) + "/");
        s.due("to 99 bytes", s.address("ccc"), 1);
        s.due("99 bytes", s.x.print(1, 0), 101);
        s.due("to 100 bytes", s.address("cccc"), 2);
        s.due("100 bytes", s.x.print(2, 0), 102);
        s.due("to 101 bytes", s.address("ccccc"), Sheet.FULL);
        s.due("to 102 bytes", s.address("cccccc"), Sheet.FULL);
        s.due("to 192 bytes", s.address("c".repeat(96)), Sheet.FULL);
        s.due("terms", s.x.count(0), 3);
        s.due("100 bytes as the base", s.x.base(2), 1);
        s.due("the same again", s.address(""), 2);
        s.due("to 101 bytes", s.address("?"), Sheet.FULL);
        s.due("to 101 bytes", s.address("#"), Sheet.FULL);
        s.due("to 196 bytes", s.address("c".repeat(96)), Sheet.FULL);
    }

    private static void longButPlain() {
        s.sentence("FULL: it would have more than 100 bytes");
        s.freshWithBase("a://hhhh/" + "b".repeat(86) + "/");
        s.due("PLAIN it is the base", s.address("./".repeat(48)), 0);
        s.due("PLAIN it is another's", s.shown(s.address("../" + "c".repeat(91)), 0), "<a://hhhh/" + "c".repeat(91) + ">");
        s.due("PLAIN it has 100 bytes", s.x.print(s.address("cccc/../dddd"), 0), 102);
        s.due("PLAIN it has 101 bytes", s.address("cccc/../ddddd"), Sheet.FULL);
    }

    /** The parts come from the base or the reference; each way the 101st byte is one too many. */
    private static void longOfEachPart() {
        s.sentence("FULL: it would have more than 100 bytes");
        dueLongest("abcd:", "", "abcd:");
        dueLongest("abcdef:", "//", "abcdef://");
        dueLongest("abcdef:p", "?", "abcdef:p?");
        dueLongest("abcdef:p?q", "#", "abcdef:p?q#");
        dueLongest("abcdef://h", "", "abcdef://h/");
        dueLongest("abcdef://h/p", "/", "abcdef://h/");
        dueLongest("abcdef:p/p", "", "abcdef:p/");
        s.freshWithBase("abc:");
        s.due("a full tape to 100 bytes", s.address("p".repeat(96)), 1);
        s.due("100 bytes", s.x.print(1, 0), 102);
    }

    /** The base and a reference with this beginning make an address with that one. */
    private static void dueLongest(String base, String begin, String wholeBegin) {
        s.freshWithBase(base);
        String fill = "x".repeat(100 - wholeBegin.length());
        s.due(base + " and a reference to 100 bytes", s.address(begin + fill), 1);
        s.due("100 bytes", s.x.print(1, 0), 102);
        s.due("its last byte", s.x.at(100), 'x');
        s.due("to 101 bytes", s.address(begin + fill + "x"), Sheet.FULL);
    }

    private static void sixtyFirst() {
        s.sentence("FULL: it would have more than 100 bytes, or be the 61st term");
        s.freshWithBase("a:b");
        for (int i = 1; i < 59; i++) {
            s.x.label(i);
        }
        s.due("60th", s.address("c"), 59);
        s.due("61st", s.address("d"), Sheet.FULL);
        s.due("61st with a scheme", s.address("e:f"), Sheet.FULL);
        s.due("one there is", s.address("c"), 59);
        s.due("one there is, with its scheme", s.address("a:b"), 0);
        s.due("a wrong byte", s.address("d<"), -11);
        s.due("terms", s.x.count(0), 60);
    }

    private static void refusedLeavesAll() {
        s.sentence("The tape, which is empty then whatever the answer");
        s.freshWithBase("a:/b");
        s.name("p", 0);
        s.x.print(0, 1);
        s.address("<");
        s.address("/" + "c".repeat(95));
        s.dueCounts(2, 1, 0);
        s.due("what was printed", s.x.at(0), 'p');
        s.dueResolved("d", "a:/d");
    }
}
