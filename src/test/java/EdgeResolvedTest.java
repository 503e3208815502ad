/** The section 'Terms': what a reference becomes when it is RESOLVED; one method a sentence. */
public final class EdgeResolvedTest {
    private static final Sheet s = new Sheet();

    public static void main(String[] args) {
        ofTheseParts();
        withScheme();
        withAuthority();
        authorityOfTheBase();
        emptyPath();
        pathFromTop();
        otherPath();
        ofSlashAlone();
        ofNothing();
        lastSlashOfPathOnly();
        oneBehindTheOther();
        ownQuery();
        ownFragment();
        s.end();
    }

    private static void ofTheseParts() {
        s.sentence("RESOLVED against an address B, a reference becomes that of these parts");
        s.freshWithBase("a://hh/ppp?qqqq#fffff");
        s.dueParts(s.address("b://i/j?k#l"), 1, 1, 2, 1, 1);
        s.dueParts(s.address("//i/j?k#l"), 1, 1, 2, 1, 1);
        s.dueParts(s.address("/j?k#l"), 1, 2, 2, 1, 1);
        s.dueParts(s.address("jj?k#l"), 1, 2, 3, 1, 1);
        s.dueParts(s.address("?k#l"), 1, 2, 4, 1, 1);
        s.dueParts(s.address("#l"), 1, 2, 4, 4, 1);
        s.dueParts(s.address(""), 1, 2, 4, 4, Sheet.NO);
    }

    private static void authorityOfTheBase() {
        s.sentence("Otherwise the authority of B");
        for (String reference : new String[] {"", "?r", "#g", "/b", "b", "../b", "."}) {
            s.freshWithBase("a://hhh/p");
            s.due("three bytes", s.x.part(s.address(reference), 1), 3);
            s.freshWithBase("a:///p");
            s.due("an empty one", s.x.part(s.address(reference), 1), 0);
            s.freshWithBase("a:/p");
            s.due("none", s.x.part(s.address(reference), 1), Sheet.NO);
        }
    }

    private static void oneBehindTheOther() {
        s.sentence("and it, one behind the other");
        s.dueFrom("a:p/", "b/c", "a:p/b/c");
        s.dueFrom("a:p/", "b:c", "b:c");
        s.dueFrom("a:p/", "./b:c", "a:p/b:c");
        s.dueFrom("a:p/", "..b", "a:p/..b");
        s.dueFrom("a:p/..", ".", "a:p/");
        s.dueFrom("a:p/.x", "..", "a:/");
        s.dueFrom("a:p", "b", "a:b");
        s.dueFrom("a://h", "b//c", "a://h/b//c");
    }

    private static void withScheme() {
        s.sentence("With a scheme: its own scheme, authority, path PLAIN, query");
        s.dueFrom("a://h/p?q#f", "b:", "b:");
        s.dueFrom("a://h/p?q#f", "b:c", "b:c");
        s.dueFrom("a://h/p?q#f", "a:c", "a:c");
        s.dueFrom("a://h/p?q#f", "a:", "a:");
        s.dueFrom("a://h/p?q#f", "a:?r", "a:?r");
        s.dueFrom("a://h/p?q#f", "b://i", "b://i");
        s.dueFrom("a://h/p?q#f", "b://", "b://");
        s.dueFrom("a://h/p?q#f", "b:c/../d?r/../s#g/../h", "b:/d?r/../s#g/../h");
        s.dueFrom("a://h/p?q#f", "b://i/../j", "b://i/j");
        s.dueFrom("a://h/p?q#f", "b:..", "b:");
    }

    private static void withAuthority() {
        s.sentence("Otherwise the scheme of B; with an authority its own, with path PLAIN and query");
        s.dueFrom("a://h/p?q#f", "//i", "a://i");
        s.dueFrom("a://h/p?q#f", "//", "a://");
        s.dueFrom("a://h/p?q#f", "//i/../j/./k?r", "a://i/j/k?r");
        s.dueFrom("a://h/p?q#f", "//i?", "a://i?");
        s.dueFrom("a://h/p?q#f", "///k", "a:///k");
        s.dueFrom("a:p", "//i", "a://i");
        s.dueFrom("A1+-.:p", "//i/..", "A1+-.://i/");
    }

    private static void emptyPath() {
        s.sentence("with an empty path: B's path as it is, and its own query, if there is one, else B's");
        s.dueFrom("a://h/p/../r/.?q", "", "a://h/p/../r/.?q");
        s.dueFrom("a://h/p/../r/.?q", "?", "a://h/p/../r/.?");
        s.dueFrom("a://h/p/../r/.?q", "?s", "a://h/p/../r/.?s");
        s.dueFrom("a:../p?q", "#g", "a:../p?q#g");
        s.dueFrom("a:p", "", "a:p");
        s.dueFrom("a:p", "?s", "a:p?s");
        s.dueFrom("a://h", "?s", "a://h?s");
        s.dueFrom("a://h?q", "", "a://h?q");
        s.dueFrom("a:", "?", "a:?");
    }

    private static void pathFromTop() {
        s.sentence("With another path: PLAIN of it, when it begins with /");
        s.dueFrom("a://h/p/r?q#f", "/", "a://h/");
        s.dueFrom("a://h/p/r?q#f", "/b", "a://h/b");
        s.dueFrom("a://h/p/r?q#f", "/b/../c", "a://h/c");
        s.dueFrom("a://h/p/r?q#f", "/..", "a://h/");
        s.dueFrom("a:p/r", "/b", "a:/b");
        s.dueFrom("a://h", "/b", "a://h/b");
        s.dueFrom("a://h/p", "/.//b", "a://h//b");
    }

    private static void otherPath() {
        s.sentence("else PLAIN of B's path up to its last / (with it");
        s.dueFrom("a://h/p/r", "b", "a://h/p/b");
        s.dueFrom("a://h/p/r/", "b", "a://h/p/r/b");
        s.dueFrom("a://h/", "b", "a://h/b");
        s.dueFrom("a://h/p//", "b", "a://h/p//b");
        s.dueFrom("a:p/r", "b", "a:p/b");
        s.dueFrom("a:/", "b", "a:/b");
        s.dueFrom("a://h/p/r", ".", "a://h/p/");
        s.dueFrom("a://h/p/r", "..", "a://h/");
        s.dueFrom("a://h/p/r", "../..", "a://h/");
        s.dueFrom("a://h/p/../r/s", "b", "a://h/r/b");
        s.dueFrom("a:p/r", "../../b", "a:/b");
        s.dueFrom("a:./p/r", "b", "a:p/b");
    }

    private static void ofSlashAlone() {
        s.sentence("of / alone, if B has an authority and an empty path");
        s.dueFrom("a://h", "b", "a://h/b");
        s.dueFrom("a://h", ".", "a://h/");
        s.dueFrom("a://h", "..", "a://h/");
        s.dueFrom("a://h?q", "b", "a://h/b");
        s.dueFrom("a://h#f", "b", "a://h/b");
        s.dueFrom("a://", "b", "a:///b");
    }

    private static void ofNothing() {
        s.sentence("of nothing, if B's has no /)");
        s.dueFrom("a:p", "b", "a:b");
        s.dueFrom("a:", "b", "a:b");
        s.dueFrom("a:p?q", "b", "a:b");
        s.dueFrom("a:p", "../b", "a:b");
        s.dueFrom("a:p", ".", "a:");
        s.dueFrom("a:..", "b", "a:b");
    }

    /** A / before or behind the path is none of the path's. */
    private static void lastSlashOfPathOnly() {
        s.sentence("B's path up to its last /");
        s.dueFrom("a:p?x/y", "b", "a:b");
        s.dueFrom("a:p#x/y", "b", "a:b");
        s.dueFrom("a:p?/y", "b", "a:b");
        s.dueFrom("a:p#/y", "b", "a:b");
        s.dueFrom("a:/p?/", "b", "a:/b");
        s.dueFrom("a:?/", "b", "a:b");
        s.dueFrom("a:/p?x/y#z/", "b", "a:/b");
        s.dueFrom("a://h?x/y", "b", "a://h/b");
    }

    private static void ownQuery() {
        s.sentence("and its own query");
        s.dueFrom("a://h/p?q", "b", "a://h/b");
        s.dueFrom("a://h/p?q", "b?", "a://h/b?");
        s.dueFrom("a://h/p?q", "b?r", "a://h/b?r");
        s.dueFrom("a://h/p?q", "/b", "a://h/b");
        s.dueFrom("a://h/p?q", "/b?r", "a://h/b?r");
        s.dueFrom("a://h/p?q", ".", "a://h/");
    }

    private static void ownFragment() {
        s.sentence("The fragment is its own");
        for (String reference : new String[] {"b:c", "//i", "", "?r", "/b", "b"}) {
            s.freshWithBase("a://h/p?q#f");
            int without = s.address(reference);
            s.due("no fragment", s.x.part(without, 4), Sheet.NO);
            s.due("an empty one", s.x.part(s.address(reference + "#"), 4), 0);
            s.due("one of two bytes", s.x.part(s.address(reference + "#gg"), 4), 2);
        }
    }
}
