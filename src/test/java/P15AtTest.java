/** Promise 15: at. */
public final class P15AtTest {
    public static void main(String[] args) {
        Sheet s = new Sheet();
        s.due("at(0) of nothing", s.x.at(0), Sheet.NO);
        s.x.label(123);
        s.x.label(4);
        s.address("a:" + "b".repeat(94));
        s.due("a term alone prints nothing", s.x.at(0), Sheet.NO);
        s.x.print(0, 0);
        int[] want = {'_', ':', 'b', '1', '2', '3'};
        for (int i = 0; i < want.length; i++) {
            s.due("at(" + i + ")", s.x.at(i), want[i]);
        }
        for (int i : new int[] {6, 7, -1, 104, 1000, Integer.MIN_VALUE, Integer.MAX_VALUE}) {
            s.due("at(" + i + ")", s.x.at(i), Sheet.NO);
        }
        s.x.print(2, 0);
        s.due("the last byte", s.x.at(97), '>');
        s.due("behind it", s.x.at(98), Sheet.NO);
        s.x.print(1, 0);
        s.due("a shorter one", s.x.at(3), '4');
        s.due("of the longer one nothing is left", s.x.at(4), Sheet.NO);
        s.put("xyz");
        s.x.literal(0);
        s.due("other calls leave it", s.x.at(3), '4');
        s.end();
    }
}
