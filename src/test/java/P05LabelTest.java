/** Promise 5: label. */
public final class P05LabelTest {
    public static void main(String[] args) {
        Sheet s = new Sheet();
        s.put("abc");
        s.due("label(0)", s.x.label(0), 0);
        s.due("label(999)", s.x.label(999), 1);
        s.due("label(0) again", s.x.label(0), 0);
        s.due("label(10)", s.x.label(10), 2);
        s.due("the tape is not touched", s.x.count(2), 3);
        int[] wrong = {-1, 1000, Integer.MIN_VALUE, Integer.MAX_VALUE};
        for (int number : wrong) {
            s.due("label(" + number + ")", s.x.label(number), Sheet.BAD);
        }
        s.due("terms", s.x.count(0), 3);

        s.freshWithLabels(60);
        s.due("61st", s.x.label(60), Sheet.FULL);
        s.due("one there is", s.x.label(59), 59);
        s.due("wrong one", s.x.label(1000), Sheet.BAD);
        s.due("terms", s.x.count(0), 60);
        s.end();
    }
}
