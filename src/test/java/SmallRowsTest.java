/**
 * Every row of up to some bytes out of a few, in each call that reads the tape, on the class and on the
 * string-based writing of the document. Where a made-up run comes by chance, this comes for certain.
 */
public final class SmallRowsTest {
    private static final String[] BASES = {
        "s://h/a/b", "s://h", "s://", "s:a/b", "s:/a", "s:a", "s:", "s:///a", "s://h?q", "s://h/a/../b/.?q#f", "s:a?b/c",
    };
    private static final Sheet s = new Sheet();

    private Model model;
    private String told;

    public static void main(String[] args) {
        SmallRowsTest test = new SmallRowsTest();
        test.references();
        test.percents();
        test.texts();
        test.bytesByFour();
        test.tags();
        test.tagLengths();
        test.names();
        test.wholes();
        test.truths();
        s.end();
    }

    private static long power(int base, int times) {
        return times == 0 ? 1 : base * power(base, times - 1);
    }

    /** Row number of all rows of a length, in the way in which numbers are written. */
    private static String row(String bytes, int length, long number) {
        StringBuilder made = new StringBuilder();
        long left = number;
        for (int i = 0; i < length; i++) {
            made.append(bytes.charAt((int) (left % bytes.length())));
            left /= bytes.length();
        }
        return made.toString();
    }

    private void begin(String words) {
        s.fresh();
        model = new Model();
        told = words;
    }

    private void same(String call, int got, int want) {
        s.due(told + ": " + call, got, want);
    }

    private void put(String text) {
        for (int i = 0; i < text.length(); i += 8) {
            String next = text.substring(i, Math.min(i + 8, text.length()));
            long bytes = Sheet.packed(next);
            same("type", s.x.type(bytes, next.length()), model.type(bytes, next.length()));
        }
    }

    private void resolve(String text) {
        put(text);
        same("resolve", s.x.resolve(), model.resolve());
    }

    private void literal(String text, int sort) {
        put(text);
        same("literal", s.x.literal(sort), model.literal(sort));
    }

    private void shown(int a, int form) {
        int length = model.print(a, form);
        same("print", s.x.print(a, form), length);
        for (int i = 0; i < length; i++) {
            same("at " + i, s.x.at(i), model.at(i));
        }
    }

    private void reference(String base, String text) {
        begin(text + " against " + base);
        if (base != null) {
            resolve(base);
            same("base", s.x.base(0), model.base(0));
        }
        resolve(text);
        int last = model.count(0) - 1;
        shown(last, 0);
        for (int what = 0; what < 5; what++) {
            same("part " + what, s.x.part(last, what), model.part(last, what));
        }
        same("tape", s.x.count(2), 0);
    }

    private void references() {
        String bytes = "a/.:?#";
        for (int length = 0; length <= 5; length++) {
            for (long number = 0; number < power(bytes.length(), length); number++) {
                String text = row(bytes, length, number);
                reference(null, text);
                reference(null, "s:" + text);
                reference("x:y", "s:" + text);
                for (String base : BASES) {
                    reference(base, text);
                }
            }
        }
        for (int length = 6; length <= 9; length++) {
            for (long number = 0; number < power(3, length); number++) {
                reference("s://h/a/b/c/d", row("a/.", length, number));
                reference("s:", row("a/.", length, number));
            }
        }
    }

    private void percents() {
        String bytes = "%0aFg<";
        for (int length = 0; length <= 5; length++) {
            for (long number = 0; number < power(bytes.length(), length); number++) {
                reference(null, "s:" + row(bytes, length, number));
            }
        }
    }

    private void texts() {
        String bytes = "\\u0t\"a";
        for (int length = 0; length <= 6; length++) {
            for (long number = 0; number < power(bytes.length(), length); number++) {
                begin(row(bytes, length, number));
                literal(told, 0);
                shown(0, 0);
            }
        }
    }

    private void bytesByFour() {
        String digits = "0123456789abcdefABCDEF";
        for (String high : new String[] {"00", "01", "10", "ff", "0g"}) {
            for (long number = 0; number < power(digits.length(), 2); number++) {
                begin("\\u" + high + row(digits, 2, number));
                literal(told, 4);
                shown(0, 0);
            }
        }
    }

    private void tag(String text) {
        begin("tag " + text);
        literal("t", 0);
        put(text);
        same("tagged", s.x.tagged(0), model.tagged(0));
        same("tape", s.x.count(2), 0);
        shown(model.count(0) - 1, 0);
    }

    private void tags() {
        String bytes = "aZ9-_";
        for (int length = 0; length <= 5; length++) {
            for (long number = 0; number < power(bytes.length(), length); number++) {
                tag(row(bytes, length, number));
            }
        }
    }

    private void tagLengths() {
        for (int first = 0; first <= 18; first++) {
            tag("a".repeat(first));
            for (int second = 0; second <= 10; second++) {
                tag("a".repeat(first) + "-" + "b".repeat(second));
                for (int third = 0; third <= 10; third++) {
                    tag("a".repeat(first) + "-" + "b".repeat(second) + "-" + "1".repeat(third));
                }
            }
        }
    }

    private void names() {
        String bytes = "az`{A";
        for (int length = 0; length <= 7; length++) {
            for (long number = 0; number < power(length < 5 ? 5 : 2, length); number++) {
                begin("name " + row(length < 5 ? bytes : "az", length, number));
                resolve("s:a");
                put(told.substring(5));
                same("prefix", s.x.prefix(0), model.prefix(0));
                same("prefixes", s.x.count(1), model.count(1));
                shown(0, 1);
            }
        }
    }

    private void pair(String first, String second, int sort) {
        begin(first + " and " + second);
        literal(first, sort);
        literal(second, sort);
        int b = model.count(0) - 1;
        same("alike", s.x.alike(0, b), model.alike(0, b));
        same("compare", s.x.compare(0, b), model.compare(0, b));
        same("the other way", s.x.compare(b, 0), model.compare(b, 0));
    }

    private void wholes() {
        String bytes = "01+-";
        for (int length = 0; length <= 3; length++) {
            for (long number = 0; number < power(bytes.length(), length); number++) {
                for (int other = 0; other <= 4; other++) {
                    for (long second = 0; second < power(bytes.length(), other); second++) {
                        pair(row(bytes, length, number), row(bytes, other, second), 2);
                    }
                }
            }
        }
    }

    private void truths() {
        String[] texts = {"true", "false", "1", "0", "", "True", "tru", "truee", "01", "+1", "-0", "yes", "2", "falsE"};
        for (String first : texts) {
            for (String second : texts) {
                for (int sort = 0; sort <= 4; sort++) {
                    pair(first, second, sort);
                }
            }
        }
    }
}
