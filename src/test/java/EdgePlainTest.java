/** The section 'Terms': how a path is made PLAIN; one method a sentence. */
public final class EdgePlainTest {
    private static final Sheet s = new Sheet();

    public static void main(String[] args) {
        emptyPath();
        dotsAtTheBeginning();
        slashDot();
        slashDotDot();
        dotsAlone();
        allElse();
        outIsIt();
        onlyPathsOfReferences();
        longest();
        s.end();
    }

    /** The base has no part that could come into it, as the reference has a scheme. */
    private static void duePlain(String path, String want) {
        s.dueFrom("x:y", "s:" + path, "s:" + want);
    }

    private static void emptyPath() {
        s.sentence("IN is the path, OUT is empty; as long as IN has bytes");
        duePlain("", "");
        duePlain("?", "?");
        duePlain("#", "#");
        s.dueFrom("x:y", "s://h", "s://h");
    }

    private static void dotsAtTheBeginning() {
        s.sentence("when it begins with ../ or ./ those go");
        duePlain("../", "");
        duePlain("./", "");
        duePlain("../a", "a");
        duePlain("./a", "a");
        duePlain(".././.././a", "a");
        duePlain("./.", "");
        duePlain("../..", "");
        duePlain(".//a", "/a");
        duePlain("../..a", "..a");
        duePlain(".../a", ".../a");
        duePlain("..a/b", "..a/b");
        duePlain(".a/b", ".a/b");
    }

    private static void slashDot() {
        s.sentence("when it begins with /./, or is /. alone, these become /");
        duePlain("/.", "/");
        duePlain("/./", "/");
        duePlain("/./a", "/a");
        duePlain("/././.", "/");
        duePlain("a/.", "a/");
        duePlain("a/./b", "a/b");
        duePlain("a/./.", "a/");
        duePlain("/.a", "/.a");
        duePlain("/a.", "/a.");
        duePlain("/a./b", "/a./b");
        duePlain("a//.", "a//");
        duePlain("a/.//b", "a//b");
    }

    private static void slashDotDot() {
        s.sentence("when it begins with /../, or is /.. alone, these become /, and of OUT its last / and all behind that goes (all, if there is none)");
        duePlain("/..", "/");
        duePlain("/../", "/");
        duePlain("/../a", "/a");
        duePlain("/../../a", "/a");
        duePlain("/a/..", "/");
        duePlain("/a/../", "/");
        duePlain("/a/../b", "/b");
        duePlain("/a/b/..", "/a/");
        duePlain("/a/b/../c", "/a/c");
        duePlain("/a/b/../..", "/");
        duePlain("/a/b/../../..", "/");
        duePlain("/a/b/../../../c", "/c");
        duePlain("a/..", "/");
        duePlain("a/../b", "/b");
        duePlain("a/../../b", "/b");
        duePlain("a/b/../c", "a/c");
        duePlain("a/b/../..", "/");
        duePlain("/a//..", "/a/");
        duePlain("/a//../b", "/a/b");
        duePlain("/a/./../b", "/b");
        duePlain("/a/.././b", "/b");
        duePlain("/..a", "/..a");
        duePlain("/a..", "/a..");
        duePlain("/a../b", "/a../b");
        duePlain("/...", "/...");
        duePlain("/.../b", "/.../b");
    }

    private static void dotsAlone() {
        s.sentence("when it is . or .. alone, it goes");
        duePlain(".", "");
        duePlain("..", "");
        duePlain("...", "...");
        duePlain(".?.", "?.");
        duePlain("..#..", "#..");
        duePlain("a.", "a.");
        duePlain("a..", "a..");
    }

    private static void allElse() {
        s.sentence("else its bytes up to before the next / that is not its first byte go to OUT's end");
        duePlain("a", "a");
        duePlain("/", "/");
        duePlain("a/", "a/");
        duePlain("/a/b/c", "/a/b/c");
        duePlain("a/b/c/", "a/b/c/");
        duePlain("a//b", "a//b");
        duePlain("a///", "a///");
        duePlain("/a//", "/a//");
        duePlain("%2e/%2E%2e/a", "%2e/%2E%2e/a");
        s.dueFrom("x:y", "s://h//a", "s://h//a");
        s.dueFrom("x:y", "s://h//..", "s://h/");
        s.dueFrom("x:y", "s://h//../a", "s://h/a");
    }

    /** What OUT has got by then is not looked at again, even where it has dots. */
    private static void outIsIt() {
        s.sentence("Then OUT is it");
        duePlain("a/..//../b", "/b");
        duePlain("a/../..", "/");
        duePlain("a/.././..b/..", "/");
        duePlain(".a/..", "/");
        duePlain("..a/../..b", "/..b");
        s.freshWithBase("x:y");
        s.dueResolved("s:a/../b", "s:/b");
        s.due("by itself", s.address("s:/b"), 1);
        s.due("by another path", s.address("s:/./c/../b"), 1);
    }

    /** Without a base nothing is resolved, and what is no path is never made PLAIN. */
    private static void onlyPathsOfReferences() {
        s.sentence("A path is made PLAIN so");
        s.dueFrom(null, "s:a/../b/./c", "s:a/../b/./c");
        s.dueFrom("x:y", "s://../a", "s://../a");
        s.dueFrom("x:y", "s:a?b/../c", "s:a?b/../c");
        s.dueFrom("x:y", "s:a#b/../c", "s:a#b/../c");
    }

    private static void longest() {
        s.sentence("as long as IN has bytes the first of these is done");
        duePlain("/.".repeat(47), "/");
        duePlain("../".repeat(31), "");
        duePlain("/a".repeat(23) + "/..".repeat(16), "/a".repeat(7) + "/");
        duePlain("/".repeat(1) + "a/".repeat(46), "/" + "a/".repeat(46));
        s.dueFrom("x://h" + "/a".repeat(45) + "/", "../".repeat(32), "x://h" + "/a".repeat(13) + "/");
        s.dueFrom("x://h" + "/a".repeat(45) + "/", "../".repeat(31) + "b", "x://h" + "/a".repeat(14) + "/b");
    }
}
