/** The section 'Terms': which terms have the same value; one method a sentence. */
public final class EdgeValuesTest {
    private static final Sheet s = new Sheet();

    public static void main(String[] args) {
        whenTheyAreOne();
        wholeNumbers();
        signs();
        digits();
        noWholeNumbers();
        bothOfSortTwo();
        truth();
        noTruth();
        bothOfSortThree();
        otherSorts();
        s.end();
    }

    private static void dueAlike(String a, int sortA, String b, int sortB, int want) {
        s.fresh();
        int first = s.text(a, sortA);
        int second = s.text(b, sortB);
        String call = a + " of " + sortA + " alike " + b + " of " + sortB;
        s.due(call, s.x.alike(first, second), want);
        s.due("turned: " + call, s.x.alike(second, first), want);
    }

    private static void dueWhole(String a, String b, int want) {
        dueAlike(a, 2, b, 2, want);
    }

    private static void dueTruth(String a, String b, int want) {
        dueAlike(a, 3, b, 3, want);
    }

    private static void whenTheyAreOne() {
        s.sentence("two terms have the same value when they are one");
        s.address("a:b");
        s.address("a:B");
        s.x.label(1);
        s.x.label(2);
        s.text("", 0);
        s.text("x", 0);
        s.tag("en", 5);
        s.tag("en-a", 5);
        s.text("x", 2);
        s.text("", 2);
        s.text("x", 3);
        s.text("x", 4);
        s.text("0000000000000000000", 2);
        s.text("00000000000000000000", 2);
        for (int a = 0; a < 14; a++) {
            for (int b = 0; b < 14; b++) {
                s.due("alike(" + a + ", " + b + ")", s.x.alike(a, b), a == b ? 1 : 0);
            }
        }
    }

    private static void wholeNumbers() {
        s.sentence("their texts are whole numbers (perhaps + or -, 1 to 18 digits) of the same value");
        dueWhole("7", "07", 1);
        dueWhole("7", "8", 0);
        dueWhole("7", "70", 0);
        dueWhole("7", "77", 0);
        dueWhole("12", "21", 0);
        dueWhole("10", "9", 0);
        dueWhole("10", "8", 0);
        dueWhole("19", "20", 0);
        dueWhole("90", "100", 0);
        dueWhole("0", "00", 1);
        dueWhole("0", "1", 0);
        dueWhole("9", "+9", 1);
        dueWhole("4294967296", "0", 0);
        dueWhole("2147483648", "-2147483648", 0);
        dueWhole("1234567890", "01234567890", 1);
    }

    private static void signs() {
        s.sentence("perhaps + or -");
        dueWhole("7", "+7", 1);
        dueWhole("7", "-7", 0);
        dueWhole("+7", "-7", 0);
        dueWhole("-7", "-07", 1);
        dueWhole("0", "+0", 1);
        dueWhole("0", "-0", 1);
        dueWhole("+0", "-0", 1);
        dueWhole("-000", "0", 1);
        dueWhole("++7", "7", 0);
        dueWhole("--7", "7", 0);
        dueWhole("+-7", "-7", 0);
        dueWhole("-+7", "-7", 0);
        dueWhole("7+", "7", 0);
        dueWhole("7-", "-7", 0);
        dueWhole("+", "0", 0);
        dueWhole("-", "0", 0);
        dueWhole("+", "-", 0);
    }

    private static void digits() {
        s.sentence("1 to 18 digits");
        String zeros = "0".repeat(17);
        dueWhole("", "0", 0);
        dueWhole("1", zeros + "1", 1);
        dueWhole("1", "0" + zeros + "1", 0);
        dueWhole("+" + zeros + "1", "1", 1);
        dueWhole("-" + zeros + "1", "-1", 1);
        dueWhole("+0" + zeros + "1", "1", 0);
        dueWhole("-0" + zeros + "1", "-1", 0);
        dueWhole("9".repeat(18), "+" + "9".repeat(18), 1);
        dueWhole("9".repeat(18), "-" + "9".repeat(18), 0);
        dueWhole("9".repeat(18), "9".repeat(17) + "8", 0);
        dueWhole("-" + "9".repeat(18), "-" + "9".repeat(17) + "8", 0);
        dueWhole("9".repeat(19), "+" + "9".repeat(19), 0);
        dueWhole("9".repeat(39), "+" + "9".repeat(39), 0);
        dueWhole("18446744073709551616", "0", 0);
        dueWhole("18446744073709551617", "1", 0);
    }

    private static void noWholeNumbers() {
        s.sentence("their texts are whole numbers");
        for (String odd : new String[] {" 7", "7 ", "7.", "7.0", "0x7", "7e0", "7/", "7:", "\\t7", "7\\n", "a7", "1 7"}) {
            dueWhole(odd, "7", 0);
        }
        dueWhole("/7", "-7", 0);
        dueWhole(":", "10", 0);
        dueWhole("/", "-1", 0);
        dueWhole("a", "49", 0);
        dueWhole("true", "1", 0);
        dueWhole("false", "0", 0);
    }

    private static void bothOfSortTwo() {
        s.sentence("when both are of sort 2");
        for (int sort : new int[] {0, 3, 4}) {
            dueAlike("7", 2, "7", sort, 0);
            dueAlike("7", 2, "+7", sort, 0);
            dueAlike("7", sort, "+7", sort, 0);
            dueAlike("0", 2, "0", sort, 0);
        }
        s.fresh();
        s.text("7", 2);
        s.x.label(7);
        s.text("7", 0);
        s.tag("en", 2);
        s.due("a label", s.x.alike(0, 1), 0);
        s.due("a tagged one", s.x.alike(0, 3), 0);
    }

    private static void truth() {
        s.sentence("or of sort 3 and each of them true or 1, or each false or 0");
        String[] texts = {"true", "1", "false", "0"};
        for (int a = 0; a < 4; a++) {
            for (int b = 0; b < 4; b++) {
                dueTruth(texts[a], texts[b], a / 2 == b / 2 ? 1 : 0);
            }
        }
    }

    private static void noTruth() {
        s.sentence("each of them true or 1, or each false or 0");
        for (String odd : new String[] {"TRUE", "True", "tru", "truee", "true ", " true", "+1", "01", "11", "t", "", "yes"}) {
            dueTruth(odd, "true", 0);
            dueTruth(odd, "1", 0);
        }
        for (String odd : new String[] {"FALSE", "False", "fals", "falsee", "false ", "-0", "+0", "00", "", "f", "no"}) {
            dueTruth(odd, "false", 0);
            dueTruth(odd, "0", 0);
        }
        dueTruth("TRUE", "True", 0);
        dueTruth("x", "y", 0);
        dueTruth("x", "x", 1);
    }

    private static void bothOfSortThree() {
        s.sentence("or of sort 3");
        for (int sort : new int[] {0, 2, 4}) {
            dueAlike("true", 3, "1", sort, 0);
            dueAlike("1", 3, "1", sort, 0);
            dueAlike("true", sort, "1", sort, 0);
            dueAlike("false", sort, "0", sort, 0);
        }
    }

    private static void otherSorts() {
        s.sentence("when both are of sort 2");
        s.text("7", 0);
        s.text("+7", 0);
        s.tag("en", 0);
        s.tag("en", 1);
        s.text("7", 4);
        s.text("+7", 4);
        for (int a = 0; a < 6; a++) {
            for (int b = 0; b < 6; b++) {
                s.due("alike(" + a + ", " + b + ")", s.x.alike(a, b), a == b ? 1 : 0);
            }
        }
    }
}
