/** Promise 3: resolve, with REFERENCE, RESOLVED and PLAIN. */
public final class P03ResolveTest {
    private static final Sheet s = new Sheet();

    public static void main(String[] args) {
        publishedExamples();
        otherBases();
        plainPaths();
        withoutBase();
        wrongBytes();
        likeOnes();
        full();
        s.end();
    }

    /** The examples of RFC 3986, sections 5.4.1 and 5.4.2 (strict). */
    private static void publishedExamples() {
        String[] pairs = {
            "g:h", "g:h", "g", "http://a/b/c/g", "./g", "http://a/b/c/g", "g/", "http://a/b/c/g/",
            "/g", "http://a/g", "//g", "http://g", "?y", "http://a/b/c/d;p?y", "g?y", "http://a/b/c/g?y",
            "#s", "http://a/b/c/d;p?q#s", "g#s", "http://a/b/c/g#s", "g?y#s", "http://a/b/c/g?y#s",
            ";x", "http://a/b/c/;x", "g;x", "http://a/b/c/g;x", "g;x?y#s", "http://a/b/c/g;x?y#s",
            "", "http://a/b/c/d;p?q", ".", "http://a/b/c/", "./", "http://a/b/c/", "..", "http://a/b/",
            "../", "http://a/b/", "../g", "http://a/b/g", "../..", "http://a/", "../../", "http://a/",
            "../../g", "http://a/g", "../../../g", "http://a/g", "../../../../g", "http://a/g",
            "/./g", "http://a/g", "/../g", "http://a/g", "g.", "http://a/b/c/g.", ".g", "http://a/b/c/.g",
            "g..", "http://a/b/c/g..", "..g", "http://a/b/c/..g", "./../g", "http://a/b/g",
            "./g/.", "http://a/b/c/g/", "g/./h", "http://a/b/c/g/h", "g/../h", "http://a/b/c/h",
            "g;x=1/./y", "http://a/b/c/g;x=1/y", "g;x=1/../y", "http://a/b/c/y",
            "g?y/./x", "http://a/b/c/g?y/./x", "g?y/../x", "http://a/b/c/g?y/../x",
            "g#s/./x", "http://a/b/c/g#s/./x", "g#s/../x", "http://a/b/c/g#s/../x", "http:g", "http:g",
        };
        for (int i = 0; i < pairs.length; i += 2) {
            s.freshWithBase("http://a/b/c/d;p?q");
            s.dueResolved(pairs[i], pairs[i + 1]);
            s.due("tape", s.x.count(2), 0);
        }
    }

    private static void otherBases() {
        s.dueFrom("a://x/y/z", "/", "a://x/");
        s.dueFrom("a:y/z", "/", "a:/");
        s.dueFrom("a://x", "b", "a://x/b");
        s.dueFrom("a://x", "../b", "a://x/b");
        s.dueFrom("a://x", "", "a://x");
        s.dueFrom("a://x?q", "#f", "a://x?q#f");
        s.dueFrom("a://x?q#f", "", "a://x?q");
        s.dueFrom("a://x?q", "?", "a://x?");
        s.dueFrom("a://x?q", "#", "a://x?q#");
        s.dueFrom("a://x/y?q", "b", "a://x/b");
        s.dueFrom("a://x/y?q", "//", "a://");
        s.dueFrom("a://x/y?q", "//?r", "a://?r");
        s.dueFrom("a:///y/z", "b", "a:///y/b");
        s.dueFrom("a://", "b", "a:///b");
        s.dueFrom("a:b", "c", "a:c");
        s.dueFrom("a:", "c", "a:c");
        s.dueFrom("a:", "/c", "a:/c");
        s.dueFrom("a:b/c", "d", "a:b/d");
        s.dueFrom("a:b/c", "../d", "a:/d");
        s.dueFrom("a:b/c", "..", "a:/");
        s.dueFrom("a:b", "..", "a:");
        s.dueFrom("a:b/../c?q", "", "a:b/../c?q");
        s.dueFrom("a:b/../c?q", "?r", "a:b/../c?r");
        s.dueFrom("a:/b?x/y", "d", "a:/d");
        s.dueFrom("a:/b#x/y", "d", "a:/d");
        s.dueFrom("a:b", "C+1-.:x/../y", "C+1-.:/y");
        s.dueFrom("a:b", "1c:d", "a:1c:d");
        s.dueFrom("a:b", ":d", "a::d");
        s.dueFrom("a:b", "c_d:e", "a:c_d:e");
        s.dueFrom("a:b", "%41:e", "a:%41:e");
        s.dueFrom("HTTP://A/b", "c", "HTTP://A/c");
        s.dueFrom("a:/b", "/.//c", "a://c");
        s.dueFrom("a://h/b", "c://i/../j?k#l", "c://i/j?k#l");
        s.dueFrom("a://h/b?q#f", "//i/../j?k#l", "a://i/j?k#l");
        s.dueFrom("a:b", "x?//y#//z?w#", "a:x?//y#//z?w#");
    }

    private static void plainPaths() {
        String[] pairs = {
            "/a/b/../c", "/a/c", "/a/./b/.", "/a/b/", "/..", "/", "/.", "/", "/../..", "/", "/a/..", "/",
            "/a/../..", "/", "//", "//", "/a//../b", "/a/b", "/a/...", "/a/...", "/.../b", "/.../b",
            "/a/..b", "/a/..b", "/a/.b/./", "/a/.b/", "a/../b", "/b", "a/..", "/", "a/b/../../../c", "/c",
            "./a", "a", "../a", "a", "./../a", "a", ".././..", "", ".", "", "..", "", "...", "...",
            "a/./b", "a/b", "a/", "a/", "a/.", "a/", "a/b/..", "a/", "..a/b", "..a/b", ".a", ".a",
            "/a/%2e%2E/b", "/a/%2e%2E/b", "a//b/..", "a//", "/./././a", "/a", "", "",
        };
        for (int i = 0; i < pairs.length; i += 2) {
            if (!pairs[i].startsWith("//")) {
                s.dueFrom("x:y", "s:" + pairs[i], "s:" + pairs[i + 1]);
            }
            s.dueFrom("x:y", "s:" + pairs[i] + "?a/../b", "s:" + pairs[i + 1] + "?a/../b");
        }
    }

    private static void withoutBase() {
        s.fresh();
        s.dueResolved("s://h/a/../b/./c?q#f", "s://h/a/../b/./c?q#f");
        s.dueResolved("Z9+-.:", "Z9+-.:");
        String[] none = {"", "a", "//h/p", "/p", "?q:", "#f:", "9a:b", "+a:b", "a/b:c", "a?b:c", "a#b:c", "a%41:c"};
        for (String reference : none) {
            s.due("no scheme: " + reference, s.address(reference), Sheet.NO);
            s.due("tape", s.x.count(2), 0);
        }
        s.due("no term came", s.x.count(0), 2);
        s.due("a wrong byte before no scheme", s.address("a<"), -11);
    }

    private static void wrongBytes() {
        for (int round = 0; round < 2; round++) {
            if (round == 0) {
                s.fresh();
            } else {
                s.freshWithBase("a:b");
            }
            for (char c = 32; c <= 126; c++) {
                boolean wrong = " \"<>\\^`{|}%".indexOf(c) >= 0;
                int got = s.address("s:b" + c);
                s.due("byte " + c, got >= 0 ? 1 : got, wrong ? -13 : 1);
                s.due("tape", s.x.count(2), 0);
                if (s.x.count(0) > 50) {
                    s.freshWithBase("a:b");
                }
            }
            s.fresh();
            s.due("at the beginning", s.address("<a"), -10);
            s.due("the first one", s.address("a:b c<d"), -13);
            s.due("far", s.address("a:" + "b".repeat(93) + "^"), -105);
            s.due("% at the end", s.address("a:%"), -12);
            s.due("% and one", s.address("a:%4"), -12);
            s.due("% and none", s.address("a:%g0"), -12);
            s.due("% and one wrong", s.address("a:%0g"), -12);
            s.due("% %", s.address("a:%%41"), -12);
            s.due("% @", s.address("a:%@0"), -12);
            s.due("% G", s.address("a:%0G"), -12);
            s.due("% :", s.address("a:%:0"), -12);
            s.due("% /", s.address("a:%0/"), -12);
            s.due("% `", s.address("a:%`0"), -12);
            s.due("second %", s.address("a:%41%4"), -15);
            s.due("good ones", s.address("a:%09%AF%af"), 0);
        }
    }

    private static void likeOnes() {
        s.fresh();
        s.due("first", s.address("a:b"), 0);
        s.due("second", s.address("a:B"), 1);
        s.due("first again", s.address("a:b"), 0);
        s.due("empty query is another", s.address("a:b?"), 2);
        s.due("empty fragment is another", s.address("a:b#"), 3);
        s.due("a longer one", s.address("a:bc"), 4);
        s.due("a literal of the same bytes", s.text("a:b", 0), 5);
        s.x.base(1);
        s.due("resolved to one there is", s.address("b"), 0);
        s.due("terms", s.x.count(0), 6);
    }

    private static void full() {
        String hundred = "s://h/" + "a".repeat(89) + "/";
        s.freshWithBase(hundred);
        s.due("to 100 bytes", s.address("bcde"), 1);
        s.due("100 bytes", s.x.print(1, 0), 102);
        s.due("to 101 bytes", s.address("bcdef"), Sheet.FULL);
        s.due("tape", s.x.count(2), 0);
        s.due("no term came", s.x.count(0), 2);
        s.due("much more", s.address("b".repeat(96)), Sheet.FULL);
        s.due("long, but plain it is short", s.shown(s.address("c/../".repeat(19)), 0), "<" + hundred + ">");
        s.due("up and down", s.shown(s.address("../" + "b".repeat(90)), 0), "<s://h/" + "b".repeat(90) + ">");

        s.x.base(1);
        s.due("base of 100 bytes and a fragment", s.address("#"), Sheet.FULL);
        s.due("base of 100 bytes", s.address(""), 1);

        s.freshWithLabels(59);
        s.due("60th", s.address("a:b"), 59);
        s.due("61st", s.address("a:c"), Sheet.FULL);
        s.due("tape", s.x.count(2), 0);
        s.due("one there is", s.address("a:b"), 59);
        s.due("no scheme", s.address("b"), Sheet.NO);
        s.due("wrong", s.address("a:c<"), -13);
    }
}
