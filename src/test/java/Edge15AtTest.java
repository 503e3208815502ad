/** Promise 15, one method a sentence. */
public final class Edge15AtTest {
    private static final Sheet s = new Sheet();

    public static void main(String[] args) {
        byteOfWhatWasPrinted();
        ofTheLastPrint();
        otherCallsLeaveIt();
        thereIsNone();
        s.end();
    }

    private static void byteOfWhatWasPrinted() {
        s.sentence("Byte i of what was printed");
        s.x.label(123);
        s.x.print(0, 0);
        String want = "_:b123";
        for (int i = 0; i < want.length(); i++) {
            s.due("at(" + i + ")", s.x.at(i), want.charAt(i));
        }
        s.due("the same again", s.x.at(0), '_');
        s.freshWithBase("abc:");
        s.address("p".repeat(95) + "~");
        s.due("the longest address", s.x.print(1, 0), 102);
        s.due("the last but one", s.x.at(100), '~');
        s.due("the last", s.x.at(101), '>');
        s.due("behind it", s.x.at(102), Sheet.NO);
    }

    private static void ofTheLastPrint() {
        s.sentence("of what was printed");
        s.x.label(999);
        s.x.label(5);
        s.x.print(0, 0);
        s.x.print(1, 0);
        s.due("at(3)", s.x.at(3), '5');
        s.due("of the longer one nothing is left", s.x.at(4), Sheet.NO);
        s.x.print(0, 0);
        s.due("at(5)", s.x.at(5), '9');
    }

    private static void otherCallsLeaveIt() {
        s.sentence("of what was printed");
        s.x.label(5);
        s.x.print(0, 0);
        s.text("x", 0);
        s.tag("en", 1);
        s.address("a:b");
        s.name("p", 3);
        s.x.base(3);
        s.address("c");
        s.x.label(6);
        s.x.compare(0, 1);
        s.x.alike(0, 1);
        s.x.part(3, 2);
        s.x.count(0);
        s.x.print(99, 0);
        s.x.print(1, 2);
        s.put("zzz");
        s.due("at(0)", s.x.at(0), '_');
        s.due("at(3)", s.x.at(3), '5');
        s.due("at(4)", s.x.at(4), Sheet.NO);
    }

    private static void thereIsNone() {
        s.sentence("NO: there is none");
        for (int i : new int[] {-1, 0, 1, 95, 96, 101, 107, 108, Integer.MIN_VALUE, Integer.MAX_VALUE}) {
            s.due("at(" + i + ") before the first print", s.x.at(i), Sheet.NO);
        }
        s.x.label(5);
        s.due("a term alone prints nothing", s.x.at(0), Sheet.NO);
        s.x.print(0, 0);
        for (int i : new int[] {-1, -2, 4, 5, 95, 96, 101, 107, 108, Integer.MIN_VALUE, Integer.MAX_VALUE}) {
            s.due("at(" + i + ")", s.x.at(i), Sheet.NO);
        }
    }
}
