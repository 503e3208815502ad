/** Promise 5, one method a sentence. */
public final class Edge05LabelTest {
    private static final Sheet s = new Sheet();

    public static void main(String[] args) {
        itsTerm();
        bad();
        full();
        s.end();
    }

    private static void itsTerm() {
        s.sentence("A label: its term");
        s.due("the greatest", s.x.label(999), 0);
        s.due("the least", s.x.label(0), 1);
        s.due("the greatest again", s.x.label(999), 0);
        s.due("the least again", s.x.label(0), 1);
        s.due("printed", s.shown(0, 0), "_:b999");
        s.due("printed", s.shown(1, 0), "_:b0");
        s.put("abc");
        s.x.label(3);
        s.due("the tape stays", s.x.count(2), 3);
    }

    private static void bad() {
        s.sentence("BAD");
        for (int number : new int[] {-1, -2, -999, 1000, 1001, 9999, Integer.MIN_VALUE, Integer.MAX_VALUE}) {
            s.due("label(" + number + ")", s.x.label(number), Sheet.BAD);
        }
        s.due("no term came", s.x.count(0), 0);
    }

    private static void full() {
        s.sentence("FULL");
        s.freshWithLabels(59);
        s.due("60th", s.x.label(999), 59);
        s.due("61st", s.x.label(998), Sheet.FULL);
        s.due("61st again", s.x.label(998), Sheet.FULL);
        s.due("one there is", s.x.label(999), 59);
        s.due("the first one", s.x.label(0), 0);
        s.due("a wrong number", s.x.label(1000), Sheet.BAD);
        s.due("terms", s.x.count(0), 60);
    }
}
