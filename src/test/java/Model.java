import java.util.ArrayList;
import java.util.List;
import java.util.TreeMap;
import java.util.regex.Matcher;
import java.util.regex.Pattern;

/** The document once more, with strings; a term is the text that tells it from all others. */
final class Model {
    private static final Pattern PARTS = Pattern.compile("(?:([A-Za-z][A-Za-z0-9+.-]*):)?(?://([^/?#]*))?([^?#]*)(?:\\?([^#]*))?(?:#(.*))?");
    private static final Pattern GOOD = Pattern.compile("(?:[\\x21-\\x7e&&[^\"<>\\\\^`{|}%]]|%[0-9A-Fa-f]{2})*");
    private static final Pattern WRITTEN = Pattern.compile("(?:[^\"\\\\]|\\\\[tnr\"\\\\]|\\\\u00(?:0[9AaDd]|[2-6][0-9A-Fa-f]|7[0-9A-Ea-e]))*");
    private static final Pattern TAG = Pattern.compile("[A-Za-z]{2,8}(?:-[A-Za-z0-9]{1,8})*");
    private static final String[] ENDS = {"", "@", "^^whole", "^^truth", "^^other"};

    final List<String[]> terms = new ArrayList<>();
    private final TreeMap<String, String> prefixes = new TreeMap<>();
    private String tape = "";
    private String printed = "";
    private String base = null;

    private String taken() {
        String text = tape;
        tape = "";
        return text;
    }

    private String[] term(int a) {
        return a >= 0 && a < terms.size() ? terms.get(a) : null;
    }

    private boolean isKind(int a, String kind) {
        return term(a) != null && term(a)[0].equals(kind);
    }

    private int added(String... wanted) {
        for (int i = 0; i < terms.size(); i++) {
            if (String.join("\u0000", terms.get(i)).equals(String.join("\u0000", wanted))) {
                return i;
            }
        }
        if (terms.size() == 60) {
            return Sheet.FULL;
        }
        terms.add(wanted);
        return terms.size() - 1;
    }

    int type(long bytes, int n) {
        if (n < 1 || n > 8) {
            return Sheet.BAD;
        }
        String text = "";
        for (int i = 0; i < n; i++) {
            text = (char) (bytes >> 8 * i & 255) + text;
        }
        if (!text.matches("[ -~]*")) {
            return Sheet.BAD;
        }
        if (tape.length() + n > 96) {
            return Sheet.FULL;
        }
        tape += text;
        return tape.length();
    }

    int resolve() {
        String text = taken();
        Matcher good = GOOD.matcher(text);
        good.lookingAt();
        if (good.end() < text.length()) {
            return -10 - good.end();
        }
        String[] own = parts(text);
        if (base == null) {
            return own[0] == null ? Sheet.NO : added("address", text);
        }
        String made = resolved(own, parts(base));
        return made.length() > 100 ? Sheet.FULL : added("address", made);
    }

    private static String[] parts(String text) {
        Matcher found = PARTS.matcher(text);
        found.matches();
        return new String[] {found.group(1), found.group(2), found.group(3), found.group(4), found.group(5)};
    }

    /** As the pseudocode of RFC 3986, section 5.2.2. */
    private static String resolved(String[] r, String[] b) {
        String[] t = new String[5];
        if (r[0] != null) {
            t[0] = r[0];
            t[1] = r[1];
            t[2] = plain(r[2]);
            t[3] = r[3];
        } else {
            t[0] = b[0];
            if (r[1] != null) {
                t[1] = r[1];
                t[2] = plain(r[2]);
                t[3] = r[3];
            } else {
                t[1] = b[1];
                if (r[2].isEmpty()) {
                    t[2] = b[2];
                    t[3] = r[3] != null ? r[3] : b[3];
                } else {
                    String folder = b[1] != null && b[2].isEmpty() ? "/" : b[2].substring(0, b[2].lastIndexOf('/') + 1);
                    t[2] = plain(r[2].startsWith("/") ? r[2] : folder + r[2]);
                    t[3] = r[3];
                }
            }
        }
        return t[0] + ":" + (t[1] == null ? "" : "//" + t[1]) + t[2]
            + (t[3] == null ? "" : "?" + t[3]) + (r[4] == null ? "" : "#" + r[4]);
    }

    private static String plain(String path) {
        String in = path;
        String out = "";
        while (!in.isEmpty()) {
            if (in.startsWith("../")) {
                in = in.substring(3);
            } else if (in.startsWith("./")) {
                in = in.substring(2);
            } else if (in.startsWith("/./") || in.equals("/.")) {
                in = "/" + in.substring(Math.min(3, in.length()));
            } else if (in.startsWith("/../") || in.equals("/..")) {
                in = "/" + in.substring(Math.min(4, in.length()));
                out = out.substring(0, Math.max(out.lastIndexOf('/'), 0));
            } else if (in.equals(".") || in.equals("..")) {
                in = "";
            } else {
                int next = in.indexOf('/', 1);
                int stop = next < 0 ? in.length() : next;
                out += in.substring(0, stop);
                in = in.substring(stop);
            }
        }
        return out;
    }

    int base(int a) {
        if (a != -1 && !isKind(a, "address")) {
            return Sheet.BAD;
        }
        base = a == -1 ? null : term(a)[1];
        return 1;
    }

    int label(int number) {
        return number < 0 || number > 999 ? Sheet.BAD : added("label", "" + number);
    }

    int literal(int sort) {
        String text = taken();
        if (sort < 0 || sort > 4 || sort == 1) {
            return Sheet.BAD;
        }
        Matcher good = WRITTEN.matcher(text);
        good.lookingAt();
        if (good.end() < text.length()) {
            return -10 - good.end();
        }
        String read = unescaped(text);
        return read.length() > 40 ? Sheet.FULL : added("literal", read, "" + sort, "");
    }

    private static String unescaped(String text) {
        Matcher hex = Pattern.compile("\\\\(?:u(....)|(.))").matcher(text);
        return hex.replaceAll(found -> Matcher.quoteReplacement(found.group(1) != null
            ? "" + (char) Integer.parseInt(found.group(1), 16)
            : "" + "\t\n\r\"\\".charAt("tnr\"\\".indexOf(found.group(2)))));
    }

    int tagged(int a) {
        String text = taken();
        if (!isKind(a, "literal") || !term(a)[2].equals("0")) {
            return Sheet.BAD;
        }
        int most = Math.min(text.length(), 16);
        for (int end = 1; end <= most; end++) {
            if (!mayBegin(text.substring(0, end))) {
                return -10 - (end - 1);
            }
        }
        if (text.length() > 16 || !TAG.matcher(text).matches()) {
            return -10 - most;
        }
        return added("literal", term(a)[1], "1", text.toLowerCase());
    }

    /** A beginning of a tag is one that some letters make whole. */
    private static boolean mayBegin(String text) {
        return TAG.matcher(text).matches() || TAG.matcher(text + "a").matches() || TAG.matcher(text + "aa").matches();
    }

    int prefix(int a) {
        String name = taken();
        if (!isKind(a, "address") || !name.matches("[a-z]{0,6}")) {
            return Sheet.BAD;
        }
        if (!prefixes.containsKey(name) && prefixes.size() == 8) {
            return Sheet.FULL;
        }
        return prefixes.put(name, term(a)[1]) == null ? 1 : 0;
    }

    int part(int a, int what) {
        if (!isKind(a, "address") || what < 0 || what > 4) {
            return Sheet.BAD;
        }
        String found = parts(term(a)[1])[what];
        return found == null ? Sheet.NO : found.length();
    }

    int kind(int a) {
        return term(a) == null ? Sheet.BAD : List.of("address", "label", "literal").indexOf(term(a)[0]);
    }

    int sort(int a) {
        return isKind(a, "literal") ? Integer.parseInt(term(a)[2]) : Sheet.BAD;
    }

    int alike(int a, int b) {
        if (term(a) == null || term(b) == null) {
            return Sheet.BAD;
        }
        return value(a).equals(value(b)) ? 1 : 0;
    }

    private String value(int a) {
        String text = term(a)[1];
        if (sort(a) == 2 && text.matches("[+-]?[0-9]{1,18}")) {
            return "whole " + new java.math.BigInteger(text);
        }
        if (sort(a) == 3 && text.matches("true|1|false|0")) {
            return "truth " + text.matches("true|1");
        }
        return "term " + a;
    }

    int compare(int a, int b) {
        if (term(a) == null || term(b) == null) {
            return Sheet.NO;
        }
        return Integer.signum(key(a).compareTo(key(b)));
    }

    /** A byte below all others between the fields makes one row of all that THE ORDER looks at. */
    private String key(int a) {
        String[] found = term(a);
        if (kind(a) == 1) {
            return "0" + String.format("%03d", Integer.parseInt(found[1]));
        }
        return kind(a) == 0 ? "1" + found[1] : "2" + found[1] + "\u0000" + found[2] + found[3];
    }

    int print(int a, int form) {
        if (term(a) == null || form < 0 || form > 1) {
            return Sheet.BAD;
        }
        String text = term(a)[1];
        if (kind(a) == 1) {
            printed = "_:b" + text;
        } else if (kind(a) == 0) {
            printed = form == 1 ? shortened(text) : "<" + text + ">";
        } else {
            String escaped = text.replace("\\", "\\\\").replace("\t", "\\t").replace("\n", "\\n")
                .replace("\r", "\\r").replace("\"", "\\\"");
            printed = "\"" + escaped + "\"" + ENDS[sort(a)] + term(a)[3];
        }
        return printed.length();
    }

    /** The names come in their order, so only a longer address takes the place of an earlier one. */
    private String shortened(String address) {
        String best = "<" + address + ">";
        int longest = -1;
        for (String name : prefixes.keySet()) {
            String from = prefixes.get(name);
            if (from.length() > longest && address.startsWith(from)
                    && address.substring(from.length()).matches("[A-Za-z0-9_-]*")) {
                longest = from.length();
                best = name + ":" + address.substring(from.length());
            }
        }
        return best;
    }

    int at(int i) {
        return i >= 0 && i < printed.length() ? printed.charAt(i) : Sheet.NO;
    }

    int count(int what) {
        int[] counts = {terms.size(), prefixes.size(), tape.length()};
        return what >= 0 && what < 3 ? counts[what] : Sheet.BAD;
    }
}
