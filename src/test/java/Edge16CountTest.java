/** Promise 16, one method a sentence. */
public final class Edge16CountTest {
    private static final Sheet s = new Sheet();

    public static void main(String[] args) {
        terms();
        prefixes();
        bytes();
        bad();
        s.end();
    }

    private static void terms() {
        s.sentence("How many terms (what = 0)");
        s.due("none", s.x.count(0), 0);
        s.x.label(0);
        s.due("one", s.x.count(0), 1);
        s.x.label(0);
        s.due("like ones are one", s.x.count(0), 1);
        s.x.label(-1);
        s.due("a refused one is none", s.x.count(0), 1);
        s.freshWithLabels(60);
        s.due("sixty", s.x.count(0), 60);
        s.x.label(60);
        s.due("sixty still", s.x.count(0), 60);
    }

    private static void prefixes() {
        s.sentence("prefixes (1)");
        s.due("none", s.x.count(1), 0);
        s.address("a:");
        for (int i = 1; i <= 8; i++) {
            s.name("p" + (char) ('a' + i), 0);
            s.due("one more", s.x.count(1), i);
        }
        s.name("q", 0);
        s.due("eight still", s.x.count(1), 8);
        s.name("pb", 0);
        s.due("a name there is", s.x.count(1), 8);
        s.name("Q", 0);
        s.due("no name", s.x.count(1), 8);
    }

    private static void bytes() {
        s.sentence("bytes on the tape (2)");
        s.due("none", s.x.count(2), 0);
        for (int i = 1; i <= 96; i++) {
            s.x.type('a', 1);
            s.due("one more", s.x.count(2), i);
        }
        s.x.type('a', 1);
        s.due("96 still", s.x.count(2), 96);
        s.x.kind(0);
        s.x.print(0, 0);
        s.x.base(0);
        s.x.label(0);
        s.due("other calls leave them", s.x.count(2), 96);
        s.x.resolve();
        s.due("none", s.x.count(2), 0);
    }

    private static void bad() {
        s.sentence("How many terms (what = 0), prefixes (1), bytes on the tape (2). BAD");
        for (int what : new int[] {-1, -2, 3, 4, Integer.MIN_VALUE, Integer.MAX_VALUE}) {
            s.due("count(" + what + ")", s.x.count(what), Sheet.BAD);
        }
    }
}
