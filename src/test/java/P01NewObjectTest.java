/** Promise 1: an empty tape, no terms, no base, no prefixes; nothing was printed. */
public final class P01NewObjectTest {
    public static void main(String[] args) {
        Sheet s = new Sheet();
        for (int what = 0; what < 3; what++) {
            s.due("count(" + what + ")", s.x.count(what), 0);
        }
        s.due("kind(0)", s.x.kind(0), Sheet.BAD);
        s.due("at(0)", s.x.at(0), Sheet.NO);
        s.due("no base", s.address("a"), Sheet.NO);
        s.due("first term", s.x.label(5), 0);

        // Two objects share nothing.
        AddressTerms other = new AddressTerms();
        s.put("abc");
        s.x.print(0, 0);
        s.due("tape of the other", other.count(2), 0);
        s.due("terms of the other", other.count(0), 0);
        s.due("printed by the other", other.at(0), Sheet.NO);
        s.end();
    }
}
