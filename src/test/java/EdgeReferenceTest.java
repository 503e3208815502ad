/** The section 'Terms': what a REFERENCE is, and its parts; one method a sentence. */
public final class EdgeReferenceTest {
    private static final int NO = Sheet.NO;
    private static final Sheet s = new Sheet();

    public static void main(String[] args) {
        bytes();
        percent();
        fromItsBeginning();
        scheme();
        schemeBytes();
        authority();
        path();
        query();
        fragment();
        notThereIsNotEmpty();
        addressHasScheme();
        s.end();
    }

    private static void bytes() {
        s.sentence("A REFERENCE is a row of bytes 33 .. 126, but none of \" < > \\ ^ ` { | }");
        for (int b = 32; b <= 126; b++) {
            if (b % 40 == 0) {
                s.fresh();
            }
            boolean wrong = " \"<>\\^`{|}".indexOf(b) >= 0;
            int before = s.x.count(0);
            String text = "a:" + (b == '%' ? "%25" : String.valueOf((char) b));
            s.due("resolve of " + text, s.address(text), wrong ? -12 : before);
            s.due("the same at the beginning", s.address((char) b + ":%"), wrong ? -10 : b == '%' ? -10 : -12);
        }
    }

    private static void percent() {
        s.sentence("each % with two of 0 .. 9, A .. F, a .. f behind it");
        for (int b = 33; b <= 126; b++) {
            if (b % 25 == 0) {
                s.fresh();
            }
            if (" \"<>\\^`{|}".indexOf(b) < 0) {
                boolean good = "0123456789ABCDEFabcdef".indexOf(b) >= 0;
                char c = (char) b;
                s.due("first " + c, Math.min(s.address("a:%" + c + "0"), 0), good ? 0 : -12);
                s.due("second " + c, Math.min(s.address("a:%0" + c), 0), good ? 0 : -12);
            }
        }
        s.fresh();
        s.due("nothing behind it", s.address("a:%"), -12);
        s.due("one behind it", s.address("a:%0"), -12);
        s.due("one of two with its two", s.address("a:%00%"), -15);
        s.due("in a part before the path", s.address("a://%4"), -14);
        s.due("in a query", s.address("a:?%4"), -13);
        s.due("in a fragment", s.address("a:#%4"), -13);
        s.due("at the beginning", s.address("%4"), -10);
        s.due("at the end", s.address("a:" + "b".repeat(91) + "%4f"), 0);
        s.due("too late", s.address("a:" + "b".repeat(92) + "%4"), -104);
    }

    /** A part's mark that stands in a later part begins nothing there. */
    private static void fromItsBeginning() {
        s.sentence("Its parts, from its beginning");
        s.dueParts(s.address("a:b:c"), 1, NO, 3, NO, NO);
        s.dueParts(s.address("a:b://c"), 1, NO, 5, NO, NO);
        s.dueParts(s.address("a://b//c"), 1, 1, 3, NO, NO);
        s.dueParts(s.address("a:b?c//d?e"), 1, NO, 1, 6, NO);
        s.dueParts(s.address("a:b#c//d?e#f"), 1, NO, 1, NO, 8);
        s.dueParts(s.address("a://b:c?d#e"), 1, 3, 0, 1, 1);
    }

    private static void scheme() {
        s.sentence("a SCHEME, if it begins with a letter, and any letters, digits, + - . and then a : follow: all before that :");
        s.dueParts(s.address("a:b"), 1, NO, 1);
        s.dueParts(s.address("z:"), 1, NO, 0);
        s.dueParts(s.address("A:Z"), 1, NO, 1);
        s.dueParts(s.address("Z+-.09az:b:c:"), 8, NO, 4);
        s.dueParts(s.address("a".repeat(95) + ":"), 95, NO, 0);
        s.dueParts(s.address("a::"), 1, NO, 1);
        for (String none : new String[] {"", ":", ":b", "a", "abc", "1a:b", "+a:b", "-a:b", ".a:b", "@:b", "[:b", "/a:b", "?a:b", "#a:b"}) {
            s.due("resolve of " + none, s.address(none), NO);
        }
    }

    private static void schemeBytes() {
        s.sentence("and any letters, digits, + - . and then a : follow");
        for (int b = 33; b <= 126; b++) {
            if (" \"<>\\^`{|}%:".indexOf(b) < 0) {
                boolean good = Character.isLetterOrDigit(b) || "+-.".indexOf(b) >= 0;
                s.fresh();
                s.due("scheme a" + (char) b, s.address("a" + (char) b + ":x"), good ? 0 : NO);
                s.dueParts(0, good ? 2 : Sheet.BAD);
            }
        }
    }

    private static void authority() {
        s.sentence("Then an AUTHORITY, if // follows: all behind that, to before the next / ? or #");
        s.dueParts(s.address("a://h/p"), 1, 1, 2, NO, NO);
        s.dueParts(s.address("a://h?q"), 1, 1, 0, 1, NO);
        s.dueParts(s.address("a://h#f"), 1, 1, 0, NO, 1);
        s.dueParts(s.address("a://h"), 1, 1, 0, NO, NO);
        s.dueParts(s.address("a://"), 1, 0, 0, NO, NO);
        s.dueParts(s.address("a:///"), 1, 0, 1, NO, NO);
        s.dueParts(s.address("a://?"), 1, 0, 0, 0, NO);
        s.dueParts(s.address("a://#"), 1, 0, 0, NO, 0);
        s.dueParts(s.address("a:////h"), 1, 0, 3, NO, NO);
        s.dueParts(s.address("a://u:p@h:80;x/"), 1, 10, 1, NO, NO);
        s.dueParts(s.address("a:/h"), 1, NO, 2, NO, NO);
        s.dueParts(s.address("a:/"), 1, NO, 1, NO, NO);
        s.dueParts(s.address("a:b//c"), 1, NO, 4, NO, NO);
        s.dueParts(s.address("a:/./"), 1, NO, 3, NO, NO);
        s.dueFrom("a://h/p", "//i", "a://i");
    }

    private static void path() {
        s.sentence("Then the PATH: to before the next ? or #");
        s.dueParts(s.address("a:b?c"), 1, NO, 1, 1, NO);
        s.dueParts(s.address("a:b#c"), 1, NO, 1, NO, 1);
        s.dueParts(s.address("a:b/c:d@e"), 1, NO, 7, NO, NO);
        s.dueParts(s.address("a:?c"), 1, NO, 0, 1, NO);
        s.dueParts(s.address("a:#c"), 1, NO, 0, NO, 1);
        s.dueParts(s.address("a:" + "b".repeat(94)), 1, NO, 94, NO, NO);
    }

    private static void query() {
        s.sentence("Then a QUERY, if ? follows: all behind it, to before the next #");
        s.dueParts(s.address("a:b?c#d"), 1, NO, 1, 1, 1);
        s.dueParts(s.address("a:b?"), 1, NO, 1, 0, NO);
        s.dueParts(s.address("a:b?#"), 1, NO, 1, 0, 0);
        s.dueParts(s.address("a:b?c?d/e:f"), 1, NO, 1, 7, NO);
        s.dueParts(s.address("a:b??"), 1, NO, 1, 1, NO);
        s.dueParts(s.address("a:?//"), 1, NO, 0, 2, NO);
        s.dueParts(s.address("a:b#?c"), 1, NO, 1, NO, 2);
    }

    private static void fragment() {
        s.sentence("Then a FRAGMENT, if # follows: all behind it");
        s.dueParts(s.address("a:b#c"), 1, NO, 1, NO, 1);
        s.dueParts(s.address("a:b#"), 1, NO, 1, NO, 0);
        s.dueParts(s.address("a:b#c?d/e//f:"), 1, NO, 1, NO, 9);
        s.dueParts(s.address("a:b##c#"), 1, NO, 1, NO, 3);
        s.dueParts(s.address("a:b?c#?"), 1, NO, 1, 1, 1);
        s.dueParts(s.address("a:#"), 1, NO, 0, NO, 0);
    }

    private static void notThereIsNotEmpty() {
        s.sentence("(A part that is not there is not the same as an empty one; the path is always there.)");
        String[] unlike = {"a:", "a://", "a:?", "a:#", "a:?#", "a://?", "a://#", "a://?#"};
        for (int i = 0; i < unlike.length; i++) {
            s.due("resolve of " + unlike[i], s.address(unlike[i]), i);
            int authority = unlike[i].contains("//") ? 0 : NO;
            int query = unlike[i].contains("?") ? 0 : NO;
            int fragment = unlike[i].contains("#") ? 0 : NO;
            s.dueParts(i, 1, authority, 0, query, fragment);
        }
        s.dueFrom("a://h/p?q#f", "", "a://h/p?q");
        s.dueFrom("a://h/p?q#f", "?", "a://h/p?");
        s.dueFrom("a://h/p?q#f", "#", "a://h/p?q#");
        s.dueFrom("a://h/p?q#f", "?#", "a://h/p?#");
        s.dueFrom("a://h/p?q#f", "//", "a://");
        s.dueFrom("a://h/p?q#f", "//?#", "a://?#");
        s.dueFrom("a:?", "", "a:?");
        s.dueFrom("a:?", "#", "a:?#");
        s.dueFrom("a:", "", "a:");
        s.dueFrom("a://", "", "a://");
        s.dueFrom("a://", "/b", "a:///b");
        s.dueFrom("a:", "/b", "a:/b");
    }

    private static void addressHasScheme() {
        s.sentence("An ADDRESS is a reference with a scheme");
        s.due("with one", s.address("a:"), 0);
        s.due("without one", s.address("//h/p"), NO);
        s.due("resolved", s.x.base(0), 1);
        s.dueResolved("//h/p", "a://h/p");
        s.due("its kind", s.x.kind(1), 0);
    }
}
