/** Promise 8: prefix. */
public final class P08PrefixTest {
    public static void main(String[] args) {
        Sheet s = new Sheet();
        s.address("a:b");
        s.address("a:c");
        s.x.label(1);
        s.text("t", 0);
        s.due("new", s.name("p", 0), 1);
        s.due("tape", s.x.count(2), 0);
        s.due("told", s.shown(0, 1), "p:");
        s.due("the same name", s.name("p", 1), 0);
        s.due("told of the old one", s.shown(0, 1), "<a:b>");
        s.due("told of the new one", s.shown(1, 1), "p:");
        s.due("empty name", s.name("", 0), 1);
        s.due("told", s.shown(0, 1), ":");
        s.due("empty name again", s.name("", 0), 0);
        s.due("six letters", s.name("azazaz", 0), 1);
        s.due("its beginning", s.name("azaza", 0), 1);
        s.due("count", s.x.count(1), 4);

        String[] wrongNames = {"azazaza", "A", "aA", "a1", "1", "a-", "a_", "a ", " ", "`", "{", "a:", "zzzzz{", "abcdefghijkl"};
        for (String name : wrongNames) {
            s.due("name " + name, s.name(name, 0), Sheet.BAD);
            s.due("tape", s.x.count(2), 0);
        }
        int[] wrongTerms = {2, 3, 4, -1, 60, Integer.MIN_VALUE, Integer.MAX_VALUE};
        for (int a : wrongTerms) {
            s.due("prefix(" + a + ")", s.name("q", a), Sheet.BAD);
            s.due("prefix(" + a + ") of a name there is", s.name("p", a), Sheet.BAD);
            s.due("tape", s.x.count(2), 0);
        }
        s.due("p is as it was", s.shown(1, 1), "p:");
        s.due("count", s.x.count(1), 4);

        for (int i = 0; i < 4; i++) {
            s.due("more", s.name("x" + (char) ('a' + i), 0), 1);
        }
        s.due("9th", s.name("y", 0), Sheet.FULL);
        s.due("tape", s.x.count(2), 0);
        s.due("count", s.x.count(1), 8);
        s.due("a name there is", s.name("xd", 1), 0);
        s.due("wrong name", s.name("Y", 0), Sheet.BAD);
        s.due("wrong term", s.name("y", 2), Sheet.BAD);
        s.end();
    }
}
