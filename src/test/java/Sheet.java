/** What the tests share: an object under test, short ways to call it, and the list of wrong answers. */
final class Sheet {
    static final int BAD = -1;
    static final int NO = -2;
    static final int FULL = -3;

    AddressTerms x = new AddressTerms();
    private int checks = 0;
    private int wrong = 0;

    void fresh() {
        x = new AddressTerms();
    }

    static long packed(String text) {
        long bytes = 0;
        for (int i = 0; i < text.length(); i++) {
            bytes = bytes << 8 | text.charAt(i);
        }
        return bytes;
    }

    /** Types a text of any length, eight bytes a call. */
    void put(String text) {
        for (int i = 0; i < text.length(); i += 8) {
            String next = text.substring(i, Math.min(i + 8, text.length()));
            x.type(packed(next), next.length());
        }
    }

    int address(String text) {
        put(text);
        return x.resolve();
    }

    int text(String text, int sort) {
        put(text);
        return x.literal(sort);
    }

    int tag(String text, int a) {
        put(text);
        return x.tagged(a);
    }

    int name(String text, int a) {
        put(text);
        return x.prefix(a);
    }

    /** What a term is printed as, read byte by byte; or the number that print answered instead. */
    String shown(int a, int form) {
        int length = x.print(a, form);
        if (length < 0) {
            return Integer.toString(length);
        }
        StringBuilder all = new StringBuilder();
        for (int i = 0; i < length; i++) {
            all.append((char) x.at(i));
        }
        due("at(-1)", x.at(-1), NO);
        due("at(" + length + ")", x.at(length), NO);
        return all.toString();
    }

    /** A new object whose base is this address. */
    void freshWithBase(String base) {
        fresh();
        due("resolve() of " + base, address(base), 0);
        due("base(0)", x.base(0), 1);
    }

    /** A new object that has as many labels as terms. */
    void freshWithLabels(int many) {
        fresh();
        for (int i = 0; i < many; i++) {
            due("label(" + i + ")", x.label(i), i);
        }
    }

    void dueResolved(String reference, String want) {
        int term = address(reference);
        due(reference + " resolved", term < 0 ? Integer.toString(term) : shown(term, 0), "<" + want + ">");
    }

    void due(String call, long got, long want) {
        due(call, Long.toString(got), Long.toString(want));
    }

    void due(String call, String got, String want) {
        checks++;
        if (!got.equals(want)) {
            wrong++;
            System.out.println(call + " answered " + got + ", due is " + want);
        }
    }

    void end() {
        System.out.println(checks + " checks, " + wrong + " wrong");
        if (wrong != 0 || checks == 0) {
            System.exit(1);
        }
    }
}
