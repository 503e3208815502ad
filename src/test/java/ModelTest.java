import java.util.ArrayList;
import java.util.List;
import java.util.TreeMap;
import java.util.regex.Matcher;
import java.util.regex.Pattern;

/**
 * Runs of calls that a fixed rule makes up, on the class and on a second writing of the document that
 * works with strings and patterns. The first call of a run with another answer is told, and the run ends.
 */
public final class ModelTest {
    private static final int RUNS = 12000;
    /** What the dearest step may call: a print that is read whole. */
    private static final int DEAREST = 115;
    private static final int LONGEST_PRINT = 110;
    private static final Sheet s = new Sheet();

    private long state;
    private Model model = new Model();
    private boolean same = true;
    private int run;

    public static void main(String[] args) {
        for (int run = 1; run <= RUNS; run++) {
            new ModelTest().go(run);
        }
        s.end();
    }

    private void go(int number) {
        run = number;
        state = number * 0x9E3779B97F4A7C15L;
        s.fresh();
        while (same && s.x.callsLeft() >= DEAREST) {
            call();
        }
        s.due("run " + run, same ? 1 : 0, 1);
    }

    private int less(int bound) {
        state = state * 6364136223846793005L + 1442695040888963407L;
        return (int) ((state >>> 33) % bound);
    }

    private void check(String call, int got, int want) {
        if (got != want && same) {
            same = false;
            s.due("run " + run + ": " + call, got, want);
        }
    }

    /** Mostly a term there is; at times a number that is none. */
    private int someTerm() {
        int many = model.terms.size();
        if (many > 0 && less(20) > 0) {
            return less(many);
        }
        int[] odd = {-1, many, many + 1, 60, -2, Integer.MAX_VALUE, Integer.MIN_VALUE};
        return odd[less(odd.length)];
    }

    private String made(String[] pieces, int most) {
        StringBuilder all = new StringBuilder();
        int many = less(most + 1);
        for (int i = 0; i < many; i++) {
            all.append(pieces[less(pieces.length)]);
        }
        return all.toString();
    }

    private static final String[] PATHS = {
        "a", "b", "/", "/", "/", ".", "..", "../", "./", "/..", "/.", "//", "?", "#", ":", "%4a", "x", "a:", "s://h/", "s:",
        "abcdefghijklmnop",
    };
    private static final String[] ODD = {"<", " ", "%", "%g1", "%1", "\"", "\\", "{", "~", "`"};
    private static final String[] TEXTS = {
        "a", "b", "0", "1", "\\t", "\\n", "\\r", "\\\"", "\\\\", "\\u0041", "\\u000a", " ", "~", "abcdefghijkl", "5",
    };
    private static final String[] ODD_TEXTS = {"\"", "\\", "\\x", "\\u00", "\\u0000", "\\u007F", "\\u012"};
    private static final String[] NUMBERS = {"0", "1", "5", "00", "+", "-", "10", "000000000", "99999999", "true", "false"};
    private static final String[] TAGS = {"en", "DE", "a", "-", "-1", "-x", "b2", "abcd", "_"};
    private static final String[] NAMES = {"a", "b", "p", "q", "xyz", "z"};
    private static final String[] ODD_NAMES = {"A", "1", "-", "abcdefg"};

    private String madeOf(String[] pieces, String[] odd, int most) {
        String text = made(pieces, most);
        return less(8) == 0 ? text + odd[less(odd.length)] + made(pieces, 2) : text;
    }

    private void type(String text) {
        for (int i = 0; i < text.length() && same; i += 8) {
            String next = text.substring(i, Math.min(i + 8, text.length()));
            long high = next.length() < 8 ? (long) less(1 << 30) << 8 * next.length() : 0;
            long bytes = high | Sheet.packed(next);
            check("type " + next, s.x.type(bytes, next.length()), model.type(bytes, next.length()));
        }
    }

    private void call() {
        switch (less(16)) {
            case 0:
                int n = less(11) - 1;
                long bytes = (long) less(1 << 30) << 32 ^ less(1 << 30);
                check("type(" + bytes + ", " + n + ")", s.x.type(bytes, n), model.type(bytes, n));
                break;
            case 1:
            case 2:
            case 3:
                type((less(4) == 0 ? "s:" : "") + madeOf(PATHS, ODD, 8));
                check("resolve()", s.x.resolve(), model.resolve());
                break;
            case 4:
                int base = less(6) == 0 ? -1 : someTerm();
                check("base(" + base + ")", s.x.base(base), model.base(base));
                break;
            case 5:
                int number = less(10) == 0 ? less(3000) - 1000 : less(1 << less(11));
                check("label(" + number + ")", s.x.label(number), model.label(number));
                break;
            case 6:
                type(madeOf(TEXTS, ODD_TEXTS, 6));
                int sort = less(7) - 1;
                check("literal(" + sort + ")", s.x.literal(sort), model.literal(sort));
                break;
            case 7:
                type(made(NUMBERS, 3));
                int typed = 2 + less(2);
                check("literal(" + typed + ")", s.x.literal(typed), model.literal(typed));
                break;
            case 8:
                type(made(TAGS, 7));
                int text = someTerm();
                check("tagged(" + text + ")", s.x.tagged(text), model.tagged(text));
                break;
            case 9:
                type(madeOf(NAMES, ODD_NAMES, 2));
                int address = someTerm();
                check("prefix(" + address + ")", s.x.prefix(address), model.prefix(address));
                break;
            default:
                ask(less(6), someTerm(), someTerm());
                break;
        }
    }

    private void ask(int which, int a, int b) {
        switch (which) {
            case 0:
                int what = less(8) - 1;
                check("part(" + a + ", " + what + ")", s.x.part(a, what), model.part(a, what));
                break;
            case 1:
                check("kind(" + a + ")", s.x.kind(a), model.kind(a));
                check("sort(" + a + ")", s.x.sort(a), model.sort(a));
                break;
            case 2:
                check("alike(" + a + ", " + b + ")", s.x.alike(a, b), model.alike(a, b));
                check("compare(" + a + ", " + b + ")", s.x.compare(a, b), model.compare(a, b));
                break;
            case 3:
            case 4:
                int form = less(10) == 0 ? less(5) - 2 : less(2);
                check("print(" + a + ", " + form + ")", s.x.print(a, form), model.print(a, form));
                readPrinted();
                break;
            default:
                for (int c = -1; c < 4; c++) {
                    check("count(" + c + ")", s.x.count(c), model.count(c));
                }
                break;
        }
    }

    /** Reading a print whole takes many of a run's calls, so most are read at some places only. */
    private void readPrinted() {
        boolean whole = less(10) == 0;
        for (int i = -1; i < LONGEST_PRINT; i++) {
            if (whole || less(20) == 0) {
                check("at(" + i + ")", s.x.at(i), model.at(i));
            }
        }
    }

    /** The document once more, with strings; a term is the text that tells it from all others. */
    private static final class Model {
        private static final Pattern PARTS = Pattern.compile("(?:([A-Za-z][A-Za-z0-9+.-]*):)?(?://([^/?#]*))?([^?#]*)(?:\\?([^#]*))?(?:#(.*))?");
        private static final Pattern GOOD = Pattern.compile("(?:[\\x21-\\x7e&&[^\"<>\\\\^`{|}%]]|%[0-9A-Fa-f]{2})*");
        private static final Pattern WRITTEN = Pattern.compile("(?:[^\"\\\\]|\\\\[tnr\"\\\\]|\\\\u00(?:0[9AaDd]|[2-6][0-9A-Fa-f]|7[0-9A-Ea-e]))*");
        private static final Pattern TAG = Pattern.compile("[A-Za-z]{2,8}(?:-[A-Za-z0-9]{1,8})*");
        private static final String[] ENDS = {"", "@", "^^whole", "^^truth", "^^other"};

        final List<String[]> terms = new ArrayList<>();
        private final TreeMap<String, String> prefixes = new TreeMap<>();
        private String tape = "";
        private String printed = "";
        private String base = null;

        private String taken() {
            String text = tape;
            tape = "";
            return text;
        }

        private String[] term(int a) {
            return a >= 0 && a < terms.size() ? terms.get(a) : null;
        }

        private boolean isKind(int a, String kind) {
            return term(a) != null && term(a)[0].equals(kind);
        }

        private int added(String... wanted) {
            for (int i = 0; i < terms.size(); i++) {
                if (String.join("\u0000", terms.get(i)).equals(String.join("\u0000", wanted))) {
                    return i;
                }
            }
            if (terms.size() == 60) {
                return Sheet.FULL;
            }
            terms.add(wanted);
            return terms.size() - 1;
        }

        int type(long bytes, int n) {
            if (n < 1 || n > 8) {
                return Sheet.BAD;
            }
            String text = "";
            for (int i = 0; i < n; i++) {
                text = (char) (bytes >> 8 * i & 255) + text;
            }
            if (!text.matches("[ -~]*")) {
                return Sheet.BAD;
            }
            if (tape.length() + n > 96) {
                return Sheet.FULL;
            }
            tape += text;
            return tape.length();
        }

        int resolve() {
            String text = taken();
            Matcher good = GOOD.matcher(text);
            good.lookingAt();
            if (good.end() < text.length()) {
                return -10 - good.end();
            }
            String[] own = parts(text);
            if (base == null) {
                return own[0] == null ? Sheet.NO : added("address", text);
            }
            String made = resolved(own, parts(base));
            return made.length() > 100 ? Sheet.FULL : added("address", made);
        }

        private static String[] parts(String text) {
            Matcher found = PARTS.matcher(text);
            found.matches();
            return new String[] {found.group(1), found.group(2), found.group(3), found.group(4), found.group(5)};
        }

        /** As the pseudocode of RFC 3986, section 5.2.2. */
        private static String resolved(String[] r, String[] b) {
            String[] t = new String[5];
            if (r[0] != null) {
                t[0] = r[0];
                t[1] = r[1];
                t[2] = plain(r[2]);
                t[3] = r[3];
            } else {
                t[0] = b[0];
                if (r[1] != null) {
                    t[1] = r[1];
                    t[2] = plain(r[2]);
                    t[3] = r[3];
                } else {
                    t[1] = b[1];
                    if (r[2].isEmpty()) {
                        t[2] = b[2];
                        t[3] = r[3] != null ? r[3] : b[3];
                    } else {
                        String folder = b[1] != null && b[2].isEmpty() ? "/" : b[2].substring(0, b[2].lastIndexOf('/') + 1);
                        t[2] = plain(r[2].startsWith("/") ? r[2] : folder + r[2]);
                        t[3] = r[3];
                    }
                }
            }
            return t[0] + ":" + (t[1] == null ? "" : "//" + t[1]) + t[2]
                + (t[3] == null ? "" : "?" + t[3]) + (r[4] == null ? "" : "#" + r[4]);
        }

        private static String plain(String path) {
            String in = path;
            String out = "";
            while (!in.isEmpty()) {
                if (in.startsWith("../")) {
                    in = in.substring(3);
                } else if (in.startsWith("./")) {
                    in = in.substring(2);
                } else if (in.startsWith("/./") || in.equals("/.")) {
                    in = "/" + in.substring(Math.min(3, in.length()));
                } else if (in.startsWith("/../") || in.equals("/..")) {
                    in = "/" + in.substring(Math.min(4, in.length()));
                    out = out.substring(0, Math.max(out.lastIndexOf('/'), 0));
                } else if (in.equals(".") || in.equals("..")) {
                    in = "";
                } else {
                    int next = in.indexOf('/', 1);
                    int stop = next < 0 ? in.length() : next;
                    out += in.substring(0, stop);
                    in = in.substring(stop);
                }
            }
            return out;
        }

        int base(int a) {
            if (a != -1 && !isKind(a, "address")) {
                return Sheet.BAD;
            }
            base = a == -1 ? null : term(a)[1];
            return 1;
        }

        int label(int number) {
            return number < 0 || number > 999 ? Sheet.BAD : added("label", "" + number);
        }

        int literal(int sort) {
            String text = taken();
            if (sort < 0 || sort > 4 || sort == 1) {
                return Sheet.BAD;
            }
            Matcher good = WRITTEN.matcher(text);
            good.lookingAt();
            if (good.end() < text.length()) {
                return -10 - good.end();
            }
            String read = unescaped(text);
            return read.length() > 40 ? Sheet.FULL : added("literal", read, "" + sort, "");
        }

        private static String unescaped(String text) {
            Matcher hex = Pattern.compile("\\\\(?:u(....)|(.))").matcher(text);
            return hex.replaceAll(found -> Matcher.quoteReplacement(found.group(1) != null
                ? "" + (char) Integer.parseInt(found.group(1), 16)
                : "" + "\t\n\r\"\\".charAt("tnr\"\\".indexOf(found.group(2)))));
        }

        int tagged(int a) {
            String text = taken();
            if (!isKind(a, "literal") || !term(a)[2].equals("0")) {
                return Sheet.BAD;
            }
            int most = Math.min(text.length(), 16);
            for (int end = 1; end <= most; end++) {
                if (!mayBegin(text.substring(0, end))) {
                    return -10 - (end - 1);
                }
            }
            if (text.length() > 16 || !TAG.matcher(text).matches()) {
                return -10 - most;
            }
            return added("literal", term(a)[1], "1", text.toLowerCase());
        }

        /** A beginning of a tag is one that some letters make whole. */
        private static boolean mayBegin(String text) {
            return TAG.matcher(text).matches() || TAG.matcher(text + "a").matches() || TAG.matcher(text + "aa").matches();
        }

        int prefix(int a) {
            String name = taken();
            if (!isKind(a, "address") || !name.matches("[a-z]{0,6}")) {
                return Sheet.BAD;
            }
            if (!prefixes.containsKey(name) && prefixes.size() == 8) {
                return Sheet.FULL;
            }
            return prefixes.put(name, term(a)[1]) == null ? 1 : 0;
        }

        int part(int a, int what) {
            if (!isKind(a, "address") || what < 0 || what > 4) {
                return Sheet.BAD;
            }
            String found = parts(term(a)[1])[what];
            return found == null ? Sheet.NO : found.length();
        }

        int kind(int a) {
            return term(a) == null ? Sheet.BAD : List.of("address", "label", "literal").indexOf(term(a)[0]);
        }

        int sort(int a) {
            return isKind(a, "literal") ? Integer.parseInt(term(a)[2]) : Sheet.BAD;
        }

        int alike(int a, int b) {
            if (term(a) == null || term(b) == null) {
                return Sheet.BAD;
            }
            return value(a).equals(value(b)) ? 1 : 0;
        }

        private String value(int a) {
            String text = term(a)[1];
            if (sort(a) == 2 && text.matches("[+-]?[0-9]{1,18}")) {
                return "whole " + new java.math.BigInteger(text);
            }
            if (sort(a) == 3 && text.matches("true|1|false|0")) {
                return "truth " + text.matches("true|1");
            }
            return "term " + a;
        }

        int compare(int a, int b) {
            if (term(a) == null || term(b) == null) {
                return Sheet.NO;
            }
            return Integer.signum(key(a).compareTo(key(b)));
        }

        /** A byte below all others between the fields makes one row of all that THE ORDER looks at. */
        private String key(int a) {
            String[] found = term(a);
            if (kind(a) == 1) {
                return "0" + String.format("%03d", Integer.parseInt(found[1]));
            }
            return kind(a) == 0 ? "1" + found[1] : "2" + found[1] + "\u0000" + found[2] + found[3];
        }

        int print(int a, int form) {
            if (term(a) == null || form < 0 || form > 1) {
                return Sheet.BAD;
            }
            String text = term(a)[1];
            if (kind(a) == 1) {
                printed = "_:b" + text;
            } else if (kind(a) == 0) {
                printed = form == 1 ? shortened(text) : "<" + text + ">";
            } else {
                String escaped = text.replace("\\", "\\\\").replace("\t", "\\t").replace("\n", "\\n")
                    .replace("\r", "\\r").replace("\"", "\\\"");
                printed = "\"" + escaped + "\"" + ENDS[sort(a)] + term(a)[3];
            }
            return printed.length();
        }

        /** The names come in their order, so only a longer address takes the place of an earlier one. */
        private String shortened(String address) {
            String best = "<" + address + ">";
            int longest = -1;
            for (String name : prefixes.keySet()) {
                String from = prefixes.get(name);
                if (from.length() > longest && address.startsWith(from)
                        && address.substring(from.length()).matches("[A-Za-z0-9_-]*")) {
                    longest = from.length();
                    best = name + ":" + address.substring(from.length());
                }
            }
            return best;
        }

        int at(int i) {
            return i >= 0 && i < printed.length() ? printed.charAt(i) : Sheet.NO;
        }

        int count(int what) {
            int[] counts = {terms.size(), prefixes.size(), tape.length()};
            return what >= 0 && what < 3 ? counts[what] : Sheet.BAD;
        }
    }
}
