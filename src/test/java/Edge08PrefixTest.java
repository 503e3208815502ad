/** Promise 8, one method a sentence. */
public final class Edge08PrefixTest {
    private static final Sheet s = new Sheet();

    public static void main(String[] args) {
        emptyThen();
        nameOfAPrefix();
        thereWasSuchAName();
        noName();
        noAddress();
        full();
        s.end();
    }

    private static void dueAndEmpty(String name, int a, int want) {
        s.due("prefix(" + a + ") of " + name, s.name(name, a), want);
        s.due("bytes on the tape", s.x.count(2), 0);
        s.due("the next byte", s.x.type('A', 1), 1);
        s.x.resolve();
    }

    private static void emptyThen() {
        s.sentence("The tape, which is empty then whatever the answer");
        s.address("a:b");
        dueAndEmpty("p", 0, 1);
        dueAndEmpty("p", 0, 0);
        dueAndEmpty("P", 0, Sheet.BAD);
        dueAndEmpty("p", 1, Sheet.BAD);
        for (int i = 0; i < 7; i++) {
            dueAndEmpty("p" + (char) ('a' + i), 0, 1);
        }
        dueAndEmpty("q", 0, Sheet.FULL);
        dueAndEmpty("p", 0, 0);
    }

    private static void nameOfAPrefix() {
        s.sentence("as the name of a prefix of an address: 1");
        s.address("a:b");
        s.due("the empty name", s.name("", 0), 1);
        s.due("it tells", s.shown(0, 1), ":");
        s.fresh();
        s.address("a:b");
        s.due("one letter", s.name("z", 0), 1);
        s.due("it tells", s.shown(0, 1), "z:");
        s.fresh();
        s.address("a:b");
        s.due("six letters", s.name("zyxabc", 0), 1);
        s.due("it tells", s.shown(0, 1), "zyxabc:");
        s.due("another name of it", s.name("zyxab", 0), 1);
        s.due("prefixes", s.x.count(1), 2);
        s.freshWithLabels(59);
        s.address("a:b");
        s.due("of term 59", s.name("p", 59), 1);
    }

    private static void thereWasSuchAName() {
        s.sentence("0 when there was such a name (it is of this address now)");
        s.address("a:b");
        s.address("a:c");
        s.name("p", 0);
        s.name("", 0);
        s.due("of another", s.name("p", 1), 0);
        s.due("of the old one", s.shown(0, 1), ":");
        s.due("of the new one", s.shown(1, 1), "p:");
        s.due("of the same", s.name("p", 1), 0);
        s.due("of the same", s.shown(1, 1), "p:");
        s.due("the empty name of another", s.name("", 1), 0);
        s.due("of the old one", s.shown(0, 1), "<a:b>");
        s.due("of the new one", s.shown(1, 1), ":");
        s.due("a beginning of a name", s.name("pp", 0), 1);
        s.due("prefixes", s.x.count(1), 3);
    }

    private static void noName() {
        s.sentence("BAD: it is no name");
        s.address("a:b");
        String[] wrong = {"abcdefg", "P", "pP", "p1", "1", "-", "_", ":", "p:", " ", "p ", "`", "{", "abcde{", "a".repeat(96)};
        for (String name : wrong) {
            s.due("prefix of " + name, s.name(name, 0), Sheet.BAD);
        }
        s.due("prefixes", s.x.count(1), 0);
    }

    private static void noAddress() {
        s.sentence("or a is no address");
        s.address("a:b");
        s.x.label(0);
        s.text("a:b", 0);
        s.tag("en", 2);
        s.text("a:b", 4);
        s.name("p", 0);
        for (int a = 1; a < 6; a++) {
            s.due("prefix(" + a + ")", s.name("q", a), Sheet.BAD);
            s.due("prefix(" + a + ") of a name there is", s.name("p", a), Sheet.BAD);
        }
        for (int a : Sheet.NEVER_TERMS) {
            s.due("prefix(" + a + ")", s.name("q", a), Sheet.BAD);
        }
        s.due("prefixes", s.x.count(1), 1);
        s.due("p is as it was", s.shown(0, 1), "p:");
    }

    private static void full() {
        s.sentence("FULL");
        s.address("a:b");
        s.address("a:c");
        for (int i = 0; i < 8; i++) {
            s.due("prefix " + (i + 1), s.name("p".repeat(i > 6 ? 1 : i) + (i > 6 ? "q" : ""), 0), 1);
        }
        s.due("9th", s.name("x", 1), Sheet.FULL);
        s.due("9th again", s.name("x", 1), Sheet.FULL);
        s.due("it tells nothing", s.shown(1, 1), "<a:c>");
        s.due("prefixes", s.x.count(1), 8);
        s.due("a name there is", s.name("pq", 1), 0);
        s.due("it tells", s.shown(1, 1), "pq:");
        s.due("no name", s.name("X", 1), Sheet.BAD);
        s.due("no address", s.name("x", 2), Sheet.BAD);
    }
}
