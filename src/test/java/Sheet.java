/** What the tests share: an object under test, short ways to call it, and the list of wrong answers. */
final class Sheet {
    static final int BAD = -1;
    static final int NO = -2;
    static final int FULL = -3;
    /** Numbers that are never a term, whatever the object holds. */
    static final int[] NEVER_TERMS = {-1, -2, 60, 61, Integer.MIN_VALUE, Integer.MAX_VALUE};

    Counted x = new Counted();
    private String sentence = "";
    private int sentences = 0;
    private int checks = 0;
    private int wrong = 0;

    void fresh() {
        x = new Counted();
    }

    /** Begins the test of one sentence of the document, on a new object. */
    void sentence(String words) {
        fresh();
        sentence = "'" + words + "': ";
        sentences++;
    }

    static long packed(String text) {
        long bytes = 0;
        for (int i = 0; i < text.length(); i++) {
            bytes = bytes << 8 | text.charAt(i);
        }
        return bytes;
    }

    /** Types a text of any length, eight bytes a call. */
    void put(String text) {
        for (int i = 0; i < text.length(); i += 8) {
            String next = text.substring(i, Math.min(i + 8, text.length()));
            x.type(packed(next), next.length());
        }
    }

    int address(String text) {
        put(text);
        return x.resolve();
    }

    int text(String text, int sort) {
        put(text);
        return x.literal(sort);
    }

    int tag(String text, int a) {
        put(text);
        return x.tagged(a);
    }

    int name(String text, int a) {
        put(text);
        return x.prefix(a);
    }

    /** What a term is printed as, read byte by byte; or the number that print answered instead. */
    String shown(int a, int form) {
        int length = x.print(a, form);
        if (length < 0) {
            return Integer.toString(length);
        }
        StringBuilder all = new StringBuilder();
        for (int i = 0; i < length; i++) {
            all.append((char) x.at(i));
        }
        due("at(-1)", x.at(-1), NO);
        due("at(" + length + ")", x.at(length), NO);
        return all.toString();
    }

    /** A new object whose base is this address. */
    void freshWithBase(String base) {
        fresh();
        due("resolve() of " + base, address(base), 0);
        due("base(0)", x.base(0), 1);
    }

    /** A new object that has as many labels as terms. */
    void freshWithLabels(int many) {
        fresh();
        for (int i = 0; i < many; i++) {
            due("label(" + i + ")", x.label(i), i);
        }
    }

    void dueResolved(String reference, String want) {
        int term = address(reference);
        due(reference + " resolved", term < 0 ? Integer.toString(term) : shown(term, 0), "<" + want + ">");
    }

    /** What a reference becomes against a base, on a new object; no base at all, if that is null. */
    void dueFrom(String base, String reference, String want) {
        if (base == null) {
            fresh();
        } else {
            freshWithBase(base);
        }
        dueResolved(reference, want);
    }

    void dueParts(int term, int... want) {
        for (int what = 0; what < want.length; what++) {
            due("part(" + term + ", " + what + ")", x.part(term, what), want[what]);
        }
    }

    void dueCounts(int terms, int prefixes, int bytes) {
        due("count(0)", x.count(0), terms);
        due("count(1)", x.count(1), prefixes);
        due("count(2)", x.count(2), bytes);
    }

    void due(String call, long got, long want) {
        due(call, Long.toString(got), Long.toString(want));
    }

    void due(String call, String got, String want) {
        checks++;
        if (!got.equals(want)) {
            wrong++;
            System.out.println(sentence + call + " answered " + got + ", due is " + want);
        }
    }

    void end() {
        String of = sentences == 0 ? "" : " of " + sentences + " sentences";
        System.out.println(checks + " checks" + of + ", " + wrong + " wrong");
        if (wrong != 0 || checks == 0) {
            System.exit(1);
        }
    }
}
