/**
 * Runs of calls that a fixed rule makes up, on the class and on a second writing of the document that
 * works with strings and patterns. The first call of a run with another answer is told, and the run ends.
 */
public final class ModelTest {
    private static final int RUNS = 12000;
    /** What the dearest step may call: a print that is read whole. */
    private static final int DEAREST = 115;
    private static final int LONGEST_PRINT = 110;
    private static final Sheet s = new Sheet();

    private long state;
    private Model model = new Model();
    private boolean same = true;
    private int run;

    public static void main(String[] args) {
        for (int run = 1; run <= RUNS; run++) {
            new ModelTest().go(run);
        }
        s.end();
    }

    private void go(int number) {
        run = number;
        state = number * 0x9E3779B97F4A7C15L;
        s.fresh();
        while (same && s.x.callsLeft() >= DEAREST) {
            call();
        }
        s.due("run " + run, same ? 1 : 0, 1);
    }

    private int less(int bound) {
        state = state * 6364136223846793005L + 1442695040888963407L;
        return (int) ((state >>> 33) % bound);
    }

    private void check(String call, int got, int want) {
        if (got != want && same) {
            same = false;
            s.due("run " + run + ": " + call, got, want);
        }
    }

    /** Mostly a term there is; at times a number that is none. */
    private int someTerm() {
        int many = model.terms.size();
        if (many > 0 && less(20) > 0) {
            return less(many);
        }
        int[] odd = {-1, many, many + 1, 60, -2, Integer.MAX_VALUE, Integer.MIN_VALUE};
        return odd[less(odd.length)];
    }

    private String made(String[] pieces, int most) {
        StringBuilder all = new StringBuilder();
        int many = less(most + 1);
        for (int i = 0; i < many; i++) {
            all.append(pieces[less(pieces.length)]);
        }
        return all.toString();
    }

    private static final String[] PATHS = {
        "a", "b", "/", "/", "/", ".", "..", "../", "./", "/..", "/.", "//", "?", "#", ":", "%4a", "x", "a:", "s://h/", "s:",
        "abcdefghijklmnop",
    };
    private static final String[] ODD = {"<", " ", "%", "%g1", "%1", "\"", "\\", "{", "~", "`"};
    private static final String[] TEXTS = {
        "a", "b", "0", "1", "\\t", "\\n", "\\r", "\\\"", "\\\\", "\\u0041", "\\u000a", " ", "~", "abcdefghijkl", "5",
    };
    private static final String[] ODD_TEXTS = {"\"", "\\", "\\x", "\\u00", "\\u0000", "\\u007F", "\\u012"};
    private static final String[] NUMBERS = {"0", "1", "5", "00", "+", "-", "10", "000000000", "99999999", "true", "false"};
    private static final String[] TAGS = {"en", "DE", "a", "-", "-1", "-x", "b2", "abcd", "_"};
    private static final String[] NAMES = {"a", "b", "p", "q", "xyz", "z"};
    private static final String[] ODD_NAMES = {"A", "1", "-", "abcdefg"};

    private String madeOf(String[] pieces, String[] odd, int most) {
        String text = made(pieces, most);
        return less(8) == 0 ? text + odd[less(odd.length)] + made(pieces, 2) : text;
    }

    private void type(String text) {
        for (int i = 0; i < text.length() && same; i += 8) {
            String next = text.substring(i, Math.min(i + 8, text.length()));
            long high = next.length() < 8 ? (long) less(1 << 30) << 8 * next.length() : 0;
            long bytes = high | Sheet.packed(next);
            check("type " + next, s.x.type(bytes, next.length()), model.type(bytes, next.length()));
        }
    }

    private void call() {
        switch (less(16)) {
            case 0:
                int n = less(11) - 1;
                long bytes = (long) less(1 << 30) << 32 ^ less(1 << 30);
                check("type(" + bytes + ", " + n + ")", s.x.type(bytes, n), model.type(bytes, n));
                break;
            case 1:
            case 2:
            case 3:
                type((less(4) == 0 ? "s:" : "") + madeOf(PATHS, ODD, 8));
                check("resolve()", s.x.resolve(), model.resolve());
                break;
            case 4:
                int base = less(6) == 0 ? -1 : someTerm();
                check("base(" + base + ")", s.x.base(base), model.base(base));
                break;
            case 5:
                int number = less(10) == 0 ? less(3000) - 1000 : less(1 << less(11));
                check("label(" + number + ")", s.x.label(number), model.label(number));
                break;
            case 6:
                type(madeOf(TEXTS, ODD_TEXTS, 6));
                int sort = less(7) - 1;
                check("literal(" + sort + ")", s.x.literal(sort), model.literal(sort));
                break;
            case 7:
                type(made(NUMBERS, 3));
                int typed = 2 + less(2);
                check("literal(" + typed + ")", s.x.literal(typed), model.literal(typed));
                break;
            case 8:
                type(made(TAGS, 7));
                int text = someTerm();
                check("tagged(" + text + ")", s.x.tagged(text), model.tagged(text));
                break;
            case 9:
                type(madeOf(NAMES, ODD_NAMES, 2));
                int address = someTerm();
                check("prefix(" + address + ")", s.x.prefix(address), model.prefix(address));
                break;
            default:
                ask(less(6), someTerm(), someTerm());
                break;
        }
    }

    private void ask(int which, int a, int b) {
        switch (which) {
            case 0:
                int what = less(8) - 1;
                check("part(" + a + ", " + what + ")", s.x.part(a, what), model.part(a, what));
                break;
            case 1:
                check("kind(" + a + ")", s.x.kind(a), model.kind(a));
                check("sort(" + a + ")", s.x.sort(a), model.sort(a));
                break;
            case 2:
                check("alike(" + a + ", " + b + ")", s.x.alike(a, b), model.alike(a, b));
                check("compare(" + a + ", " + b + ")", s.x.compare(a, b), model.compare(a, b));
                break;
            case 3:
            case 4:
                int form = less(10) == 0 ? less(5) - 2 : less(2);
                check("print(" + a + ", " + form + ")", s.x.print(a, form), model.print(a, form));
                readPrinted();
                break;
            default:
                for (int c = -1; c < 4; c++) {
                    check("count(" + c + ")", s.x.count(c), model.count(c));
                }
                break;
        }
    }

    /** Reading a print whole takes many of a run's calls, so most are read at some places only. */
    private void readPrinted() {
        boolean whole = less(10) == 0;
        for (int i = -1; i < LONGEST_PRINT; i++) {
            if (whole || less(20) == 0) {
                check("at(" + i + ")", s.x.at(i), model.at(i));
            }
        }
    }
}
