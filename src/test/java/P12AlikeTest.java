/** Promise 12: alike, with VALUES. */
public final class P12AlikeTest {
    private static final Sheet s = new Sheet();

    private static void dueAlike(String a, int sortA, String b, int sortB, int want) {
        if (s.x.count(0) > 50) {
            s.fresh();
        }
        int first = s.text(a, sortA);
        int second = s.text(b, sortB);
        String call = a + " of " + sortA + " alike " + b + " of " + sortB;
        s.due(call, s.x.alike(first, second), want);
        s.due("turned: " + call, s.x.alike(second, first), want);
    }

    public static void main(String[] args) {
        whole();
        truth();
        otherTerms();
        s.end();
    }

    private static void whole() {
        dueAlike("5", 2, "+5", 2, 1);
        dueAlike("5", 2, "005", 2, 1);
        dueAlike("5", 2, "-5", 2, 0);
        dueAlike("-05", 2, "-5", 2, 1);
        dueAlike("0", 2, "-0", 2, 1);
        dueAlike("+0", 2, "-00", 2, 1);
        dueAlike("5", 2, "6", 2, 0);
        dueAlike("5", 2, "50", 2, 0);
        dueAlike("10", 2, "9", 2, 0);
        dueAlike("10", 2, "11", 2, 0);
        dueAlike("1", 2, "000000000000000001", 2, 1);
        dueAlike("1", 2, "0000000000000000001", 2, 0);
        dueAlike("+1", 2, "-000000000000000001", 2, 0);
        dueAlike("-1", 2, "-000000000000000001", 2, 1);
        dueAlike("999999999999999999", 2, "+999999999999999999", 2, 1);
        dueAlike("999999999999999999", 2, "999999999999999998", 2, 0);
        dueAlike("-999999999999999999", 2, "999999999999999999", 2, 0);
        dueAlike("1000000000000000000", 2, "+1000000000000000000", 2, 0);
        dueAlike("4294967297", 2, "1", 2, 0);
        dueAlike("", 2, "0", 2, 0);
        dueAlike("+", 2, "0", 2, 0);
        dueAlike("+", 2, "-", 2, 0);
        dueAlike("5x", 2, "5", 2, 0);
        dueAlike("5 ", 2, "5", 2, 0);
        dueAlike(" 5", 2, "5", 2, 0);
        dueAlike("--5", 2, "5", 2, 0);
        dueAlike("+-5", 2, "-5", 2, 0);
        dueAlike("5.0", 2, "5", 2, 0);
        dueAlike("x", 2, "x", 2, 1);
        dueAlike("true", 2, "1", 2, 0);
        dueAlike(":", 2, "10", 2, 0);
        dueAlike("/", 2, "-1", 2, 0);
        for (int sort : new int[] {0, 3, 4}) {
            dueAlike("5", sort, "+5", sort, 0);
            dueAlike("5", sort, "5", 2, 0);
            dueAlike("5", sort, "+5", 2, 0);
        }
    }

    private static void truth() {
        dueAlike("true", 3, "1", 3, 1);
        dueAlike("false", 3, "0", 3, 1);
        dueAlike("true", 3, "0", 3, 0);
        dueAlike("true", 3, "false", 3, 0);
        dueAlike("1", 3, "0", 3, 0);
        dueAlike("1", 3, "false", 3, 0);
        dueAlike("True", 3, "true", 3, 0);
        dueAlike("true ", 3, "true", 3, 0);
        dueAlike("01", 3, "1", 3, 0);
        dueAlike("+1", 3, "1", 3, 0);
        dueAlike("00", 3, "0", 3, 0);
        dueAlike("tru", 3, "true", 3, 0);
        dueAlike("", 3, "0", 3, 0);
        dueAlike("x", 3, "y", 3, 0);
        dueAlike("x", 3, "x", 3, 1);
        for (int sort : new int[] {0, 2, 4}) {
            dueAlike("true", sort, "1", sort, 0);
            dueAlike("true", sort, "1", 3, 0);
            dueAlike("1", sort, "1", 3, 0);
        }
    }

    private static void otherTerms() {
        s.fresh();
        s.address("a:b");
        s.address("a:c");
        s.x.label(1);
        s.x.label(2);
        s.text("1", 0);
        s.tag("en", 4);
        s.tag("de", 4);
        s.text("1", 2);
        for (int a = 0; a < 8; a++) {
            for (int b = 0; b < 8; b++) {
                s.due("alike(" + a + ", " + b + ")", s.x.alike(a, b), a == b ? 1 : 0);
            }
        }
        for (int a : new int[] {8, -1, 60, Integer.MIN_VALUE, Integer.MAX_VALUE}) {
            s.due("alike(" + a + ", 0)", s.x.alike(a, 0), Sheet.BAD);
            s.due("alike(0, " + a + ")", s.x.alike(0, a), Sheet.BAD);
            s.due("alike(" + a + ", " + a + ")", s.x.alike(a, a), Sheet.BAD);
        }
    }
}
