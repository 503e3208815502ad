/** The section 'Terms': THE ORDER; one method a sentence. */
public final class EdgeOrderTest {
    private static final Sheet s = new Sheet();

    public static void main(String[] args) {
        kinds();
        labelsByNumbers();
        addressesByBytes();
        textsFirst();
        thenSorts();
        thenTags();
        lesserByte();
        beginningFirst();
        s.end();
    }

    /** Each of these terms is before all that stand behind it in the row. */
    private static void dueInOrder(int... terms) {
        for (int i = 0; i < terms.length; i++) {
            for (int j = 0; j < terms.length; j++) {
                s.due("compare of places " + i + " and " + j, s.x.compare(terms[i], terms[j]), Integer.compare(i, j));
            }
        }
    }

    private static void kinds() {
        s.sentence("labels, by numbers; then addresses, by bytes; then literals");
        int empty = s.text("", 0);
        int late = s.text("~", 4);
        int first = s.address("A:");
        int last = s.address("z:~");
        int great = s.x.label(999);
        int zero = s.x.label(0);
        dueInOrder(zero, great, first, last, empty, late);
    }

    private static void labelsByNumbers() {
        s.sentence("labels, by numbers");
        int[] numbers = {0, 1, 2, 9, 10, 11, 19, 20, 99, 100, 127, 128, 129, 255, 256, 998, 999};
        int[] terms = new int[numbers.length];
        for (int i = numbers.length - 1; i >= 0; i--) {
            terms[i] = s.x.label(numbers[i]);
        }
        dueInOrder(terms);
    }

    private static void addressesByBytes() {
        s.sentence("then addresses, by bytes");
        String[] rows = {"A:b", "a+:b", "a:", "a:!", "a:#", "a:/", "a://", "a:1", "a:10", "a:9", "a:B", "a:b", "a:b#", "a:b?", "a:~", "b:"};
        int[] terms = new int[rows.length];
        for (int i = rows.length - 1; i >= 0; i--) {
            terms[i] = s.address(rows[i]);
        }
        dueInOrder(terms);
    }

    private static void textsFirst() {
        s.sentence("then literals: by the bytes of their texts");
        int otherA = s.text("a", 4);
        int plainB = s.text("b", 0);
        int plainA = s.text("a", 0);
        int tagA = s.tag("zz", plainA);
        int tagB = s.tag("aa", plainB);
        int wholeTen = s.text("10", 2);
        int wholeNine = s.text("9", 2);
        int empty = s.text("", 4);
        dueInOrder(empty, wholeTen, wholeNine, plainA, tagA, otherA, plainB, tagB);
    }

    private static void thenSorts() {
        s.sentence("then by sorts");
        int other = s.text("t", 4);
        int truth = s.text("t", 3);
        int whole = s.text("t", 2);
        int plain = s.text("t", 0);
        int tagged = s.tag("en", plain);
        dueInOrder(plain, tagged, whole, truth, other);
    }

    private static void thenTags() {
        s.sentence("then by the bytes of their tags");
        int plain = s.text("t", 0);
        String[] tags = {"aa", "en", "en-0", "en-a", "en-a-b", "en-aa", "en-b", "ena", "zz"};
        int[] terms = new int[tags.length];
        for (int i = tags.length - 1; i >= 0; i--) {
            terms[i] = s.tag(tags[i], plain);
        }
        dueInOrder(terms);
        s.due("great letters are small ones", s.x.compare(s.tag("ZZ", plain), s.tag("aa", plain)), 1);
    }

    private static void lesserByte() {
        s.sentence("the lesser one where they first differ");
        int[] terms = {
            s.text("\\t", 0), s.text("\\n", 0), s.text("\\r", 0), s.text(" ", 0), s.text("\\\"", 0), s.text("0", 0),
            s.text("A", 0), s.text("\\\\", 0), s.text("a", 0), s.text("~", 0),
        };
        dueInOrder(terms);
        s.fresh();
        dueInOrder(s.text("aaz", 0), s.text("aba", 0), s.text("b", 0));
    }

    private static void beginningFirst() {
        s.sentence("the one that is the beginning of the other one first");
        int[] terms = {s.text("", 0), s.text("a", 0), s.text("a\\t", 0), s.text("a ", 0), s.text("aa", 0), s.text("a".repeat(40), 0)};
        dueInOrder(terms);
        s.fresh();
        dueInOrder(s.address("a:"), s.address("a:a"), s.address("a:aa"), s.address("a:aa!"));
    }
}
