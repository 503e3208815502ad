/**
 * Terms of triples: addresses that are resolved against a base, labels, and literals with sorts and
 * tags; prefixes that tell addresses short; the values and the order of terms.
 *
 * <p>Text goes in through a tape of bytes and comes out of the bytes that were last printed.
 */
public final class AddressTerms {
    public static final int BAD = -1;
    public static final int NO = -2;
    public static final int FULL = -3;

    /** The answer for a wrong byte at place 0; each place further is one less. */
    private static final int WRONG_AT_START = -10;
    /** What a search for a place, or a byte of a row, tells when there is none. */
    private static final int NONE = -1;

    private static final int ADDRESS = 0;
    private static final int LABEL = 1;
    private static final int LITERAL = 2;

    private static final int PLAIN = 0;
    private static final int TAGGED = 1;
    private static final int WHOLE = 2;
    private static final int TRUTH = 3;
    private static final int OTHER = 4;

    private static final int SCHEME = 0;
    private static final int AUTHORITY = 1;
    private static final int PATH = 2;
    private static final int QUERY = 3;
    private static final int FRAGMENT = 4;
    private static final int PARTS = 5;

    private static final int FORM_LONG = 0;
    private static final int FORM_SHORT = 1;

    private static final int TAPE_ROOM = 96;
    private static final int MOST_TERMS = 60;
    private static final int MOST_PREFIXES = 8;
    private static final int MOST_TYPED = 8;
    private static final int LONGEST_ADDRESS = 100;
    private static final int LONGEST_TEXT = 40;
    private static final int LONGEST_TAG = 16;
    private static final int LONGEST_TAG_PART = 8;
    private static final int LONGEST_NAME = 6;
    private static final int GREATEST_LABEL = 999;
    private static final int MOST_DIGITS = 18;

    /** A base, a reference and the / between them: more than that no resolving brings together. */
    private static final int RESOLVING_ROOM = LONGEST_ADDRESS + TAPE_ROOM + 1;
    /** Enough for a name, a : and an address; that is more than a text all of escapes with a tag. */
    private static final int PRINT_ROOM = LONGEST_NAME + LONGEST_ADDRESS + 2;

    private static final String NOT_IN_REFERENCES = "\"<>\\^`{|}";

    private final Row tape = new Row(TAPE_ROOM);
    private final Row printed = new Row(PRINT_ROOM);
    private final Term[] terms = new Term[MOST_TERMS];
    private final Prefix[] prefixes = new Prefix[MOST_PREFIXES];
    private final Term wanted = new Term(RESOLVING_ROOM, LONGEST_TAG);
    private final Reference given = new Reference();
    private final Reference known = new Reference();
    private final Resolver resolver = new Resolver();
    private int termCount = 0;
    private int prefixCount = 0;
    private int baseTerm = NONE;

    public AddressTerms() {
    }

    public int type(long bytes, int n) {
        if (n < 1 || n > MOST_TYPED) {
            return BAD;
        }
        for (int i = 0; i < n; i++) {
            if (!isTapeByte(byteOf(bytes, i))) {
                return BAD;
            }
        }
        if (tape.size() + n > TAPE_ROOM) {
            return FULL;
        }
        for (int i = n - 1; i >= 0; i--) {
            tape.add(byteOf(bytes, i));
        }
        return tape.size();
    }

    public int resolve() {
        int answer = addressOnTape();
        tape.cutTo(0);
        return answer;
    }

    public int base(int term) {
        if (term != NONE && addressAt(term) == null) {
            return BAD;
        }
        baseTerm = term;
        return 1;
    }

    public int label(int number) {
        if (number < 0 || number > GREATEST_LABEL) {
            return BAD;
        }
        wanted.begin(LABEL, PLAIN, number);
        return placeOfWanted();
    }

    public int literal(int sort) {
        int answer = literalOnTape(sort);
        tape.cutTo(0);
        return answer;
    }

    public int tagged(int a) {
        int answer = tagOnTape(a);
        tape.cutTo(0);
        return answer;
    }

    public int prefix(int a) {
        int answer = nameOnTape(a);
        tape.cutTo(0);
        return answer;
    }

    public int part(int a, int what) {
        Term term = addressAt(a);
        if (term == null || what < 0 || what >= PARTS) {
            return BAD;
        }
        known.read(term.text);
        return known.has(what) ? known.lengthOf(what) : NO;
    }

    public int kind(int a) {
        Term term = termAt(a);
        return term == null ? BAD : term.kind;
    }

    public int sort(int a) {
        Term term = literalAt(a);
        return term == null ? BAD : term.sort;
    }

    public int alike(int a, int b) {
        Term first = termAt(a);
        Term second = termAt(b);
        if (first == null || second == null) {
            return BAD;
        }
        return a == b || haveSameValue(first, second) ? 1 : 0;
    }

    public int compare(int a, int b) {
        Term first = termAt(a);
        Term second = termAt(b);
        if (first == null || second == null) {
            return NO;
        }
        return first.order(second);
    }

    public int print(int a, int form) {
        Term term = termAt(a);
        if (term == null || (form != FORM_LONG && form != FORM_SHORT)) {
            return BAD;
        }
        printed.cutTo(0);
        if (term.kind == LABEL) {
            printed.addText("_:b");
            printed.addNumber(term.number);
        } else if (term.kind == LITERAL) {
            printLiteral(term);
        } else {
            printAddress(term.text, form);
        }
        return printed.size();
    }

    public int at(int i) {
        int found = printed.byteAt(i);
        return found == NONE ? NO : found;
    }

    public int count(int what) {
        switch (what) {
            case 0:
                return termCount;
            case 1:
                return prefixCount;
            case 2:
                return tape.size();
            default:
                return BAD;
        }
    }

    private Term termAt(int place) {
        return place >= 0 && place < termCount && place < terms.length ? terms[place] : null;
    }

    private Term addressAt(int place) {
        Term term = termAt(place);
        return term != null && term.kind == ADDRESS ? term : null;
    }

    private Term literalAt(int place) {
        Term term = termAt(place);
        return term != null && term.kind == LITERAL ? term : null;
    }

    /** Like terms are one, so a wanted one that is there already is found even when all is full. */
    private int placeOfWanted() {
        for (int i = 0; i < termCount; i++) {
            Term term = termAt(i);
            if (term != null && term.order(wanted) == 0) {
                return i;
            }
        }
        if (termCount < 0 || termCount >= terms.length) {
            return FULL;
        }
        int place = termCount;
        terms[place] = wanted.copy();
        termCount = place + 1;
        return place;
    }

    private int addressOnTape() {
        int wrong = wrongInReference(tape);
        if (wrong != NONE) {
            return WRONG_AT_START - wrong;
        }
        given.read(tape);
        Term base = addressAt(baseTerm);
        if (base == null && !given.has(SCHEME)) {
            return NO;
        }
        wanted.begin(ADDRESS, PLAIN, 0);
        if (base == null) {
            wanted.text.addRange(tape, 0, tape.size());
        } else {
            known.read(base.text);
            resolver.resolveTo(wanted.text, given, known);
        }
        return wanted.text.size() > LONGEST_ADDRESS ? FULL : placeOfWanted();
    }

    private int literalOnTape(int sort) {
        if (sort != PLAIN && sort != WHOLE && sort != TRUTH && sort != OTHER) {
            return BAD;
        }
        wanted.begin(LITERAL, sort, 0);
        int wrong = readText(tape, wanted.text);
        if (wrong != NONE) {
            return WRONG_AT_START - wrong;
        }
        return wanted.text.size() > LONGEST_TEXT ? FULL : placeOfWanted();
    }

    private int tagOnTape(int a) {
        Term term = literalAt(a);
        if (term == null || term.sort != PLAIN) {
            return BAD;
        }
        int wrong = wrongInTag(tape);
        if (wrong != NONE) {
            return WRONG_AT_START - wrong;
        }
        wanted.begin(LITERAL, TAGGED, 0);
        wanted.text.addRange(term.text, 0, term.text.size());
        for (int i = 0; i < tape.size(); i++) {
            wanted.tag.add(smallOf(tape.byteAt(i)));
        }
        return placeOfWanted();
    }

    private int nameOnTape(int a) {
        Term term = addressAt(a);
        if (term == null || !isName(tape)) {
            return BAD;
        }
        for (int i = 0; i < prefixCount; i++) {
            Prefix old = prefixAt(i);
            if (old != null && old.name.order(tape) == 0) {
                old.address = term.text;
                return 0;
            }
        }
        if (prefixCount < 0 || prefixCount >= prefixes.length) {
            return FULL;
        }
        prefixes[prefixCount] = new Prefix(tape.copy(), term.text);
        prefixCount++;
        return 1;
    }

    private Prefix prefixAt(int place) {
        return place >= 0 && place < prefixCount && place < prefixes.length ? prefixes[place] : null;
    }

    private void printAddress(Row address, int form) {
        Prefix best = form == FORM_SHORT ? bestPrefix(address) : null;
        if (best == null) {
            printed.add('<');
            printed.addRange(address, 0, address.size());
            printed.add('>');
        } else {
            printed.addRange(best.name, 0, best.name.size());
            printed.add(':');
            printed.addRange(address, best.address.size(), address.size());
        }
    }

    private Prefix bestPrefix(Row address) {
        Prefix best = null;
        for (int i = 0; i < prefixCount; i++) {
            Prefix next = prefixAt(i);
            if (next != null && next.tells(address) && (best == null || next.isBetterThan(best))) {
                best = next;
            }
        }
        return best;
    }

    private void printLiteral(Term term) {
        printed.add('"');
        for (int i = 0; i < term.text.size(); i++) {
            printTextByte(term.text.byteAt(i));
        }
        printed.add('"');
        switch (term.sort) {
            case TAGGED:
                printed.add('@');
                printed.addRange(term.tag, 0, term.tag.size());
                break;
            case WHOLE:
                printed.addText("^^whole");
                break;
            case TRUTH:
                printed.addText("^^truth");
                break;
            case OTHER:
                printed.addText("^^other");
                break;
            default:
                break;
        }
    }

    private void printTextByte(int b) {
        switch (b) {
            case '\t':
                printed.addText("\\t");
                break;
            case '\n':
                printed.addText("\\n");
                break;
            case '\r':
                printed.addText("\\r");
                break;
            case '"':
                printed.addText("\\\"");
                break;
            case '\\':
                printed.addText("\\\\");
                break;
            default:
                printed.add(b);
                break;
        }
    }

    private static int byteOf(long bytes, int fromLowest) {
        return (int) ((bytes >>> (8 * fromLowest)) & 255L);
    }

    private static boolean isTapeByte(int b) {
        return b >= 32 && b <= 126;
    }

    private static boolean isTextByte(int b) {
        return b == '\t' || b == '\n' || b == '\r' || isTapeByte(b);
    }

    private static boolean isReferenceByte(int b) {
        return b >= 33 && b <= 126 && NOT_IN_REFERENCES.indexOf((char) b) < 0;
    }

    private static boolean isSmallLetter(int b) {
        return b >= 'a' && b <= 'z';
    }

    private static boolean isGreatLetter(int b) {
        return b >= 'A' && b <= 'Z';
    }

    private static boolean isLetter(int b) {
        return isSmallLetter(b) || isGreatLetter(b);
    }

    private static boolean isDigit(int b) {
        return b >= '0' && b <= '9';
    }

    private static boolean isLetterOrDigit(int b) {
        return isLetter(b) || isDigit(b);
    }

    private static int smallOf(int b) {
        return isGreatLetter(b) ? b - 'A' + 'a' : b;
    }

    private static int hexValue(int b) {
        if (isDigit(b)) {
            return b - '0';
        }
        if (b >= 'a' && b <= 'f') {
            return b - 'a' + 10;
        }
        return b >= 'A' && b <= 'F' ? b - 'A' + 10 : NONE;
    }

    private static int wrongInReference(Row row) {
        for (int i = 0; i < row.size(); i++) {
            int b = row.byteAt(i);
            if (!isReferenceByte(b)) {
                return i;
            }
            if (b == '%' && (hexValue(row.byteAt(i + 1)) == NONE || hexValue(row.byteAt(i + 2)) == NONE)) {
                return i;
            }
        }
        return NONE;
    }

    private static int wrongInTag(Row row) {
        int fewest = 2;
        int size = 0;
        boolean first = true;
        for (int i = 0; i < row.size(); i++) {
            int b = row.byteAt(i);
            if (i >= LONGEST_TAG) {
                return i;
            }
            if (b == '-') {
                if (size < fewest) {
                    return i;
                }
                first = false;
                fewest = 1;
                size = 0;
            } else {
                boolean fits = first ? isLetter(b) : isLetterOrDigit(b);
                if (!fits || size >= LONGEST_TAG_PART) {
                    return i;
                }
                size++;
            }
        }
        return size < fewest ? row.size() : NONE;
    }

    private static boolean isName(Row row) {
        if (row.size() > LONGEST_NAME) {
            return false;
        }
        for (int i = 0; i < row.size(); i++) {
            if (!isSmallLetter(row.byteAt(i))) {
                return false;
            }
        }
        return true;
    }

    /** Puts what the written bytes stand for into text; tells the first wrong place, or NONE. */
    private static int readText(Row written, Row text) {
        int place = 0;
        for (int step = 0; step < written.size() && place < written.size(); step++) {
            int b = written.byteAt(place);
            int length = 1;
            if (b == '\\') {
                length = written.byteAt(place + 1) == 'u' ? 6 : 2;
                b = escapedByte(written, place);
            } else if (b == '"') {
                b = NONE;
            }
            if (b == NONE) {
                return place;
            }
            text.add(b);
            place += length;
        }
        return NONE;
    }

    private static int escapedByte(Row written, int place) {
        switch (written.byteAt(place + 1)) {
            case 't':
                return '\t';
            case 'n':
                return '\n';
            case 'r':
                return '\r';
            case '"':
                return '"';
            case '\\':
                return '\\';
            case 'u':
                return hexByte(written, place + 2);
            default:
                return NONE;
        }
    }

    private static int hexByte(Row written, int place) {
        int told = 0;
        for (int i = 0; i < 4; i++) {
            int digit = hexValue(written.byteAt(place + i));
            if (digit == NONE) {
                return NONE;
            }
            told = told * 16 + digit;
        }
        return isTextByte(told) ? told : NONE;
    }

    private static boolean haveSameValue(Term a, Term b) {
        if (a.kind != LITERAL || b.kind != LITERAL || a.sort != b.sort) {
            return false;
        }
        if (a.sort == WHOLE) {
            return isWhole(a.text) && isWhole(b.text) && wholeValue(a.text) == wholeValue(b.text);
        }
        if (a.sort == TRUTH) {
            return (isTrue(a.text) && isTrue(b.text)) || (isFalse(a.text) && isFalse(b.text));
        }
        return false;
    }

    private static boolean isTrue(Row text) {
        return text.isRest(0, "true") || text.isRest(0, "1");
    }

    private static boolean isFalse(Row text) {
        return text.isRest(0, "false") || text.isRest(0, "0");
    }

    private static int signLength(Row text) {
        return text.byteAt(0) == '+' || text.byteAt(0) == '-' ? 1 : 0;
    }

    private static boolean isWhole(Row text) {
        int digits = text.size() - signLength(text);
        if (digits < 1 || digits > MOST_DIGITS) {
            return false;
        }
        for (int i = signLength(text); i < text.size(); i++) {
            if (!isDigit(text.byteAt(i))) {
                return false;
            }
        }
        return true;
    }

    private static long wholeValue(Row text) {
        long value = 0;
        for (int i = signLength(text); i < text.size(); i++) {
            value = value * 10 + (text.byteAt(i) - '0');
        }
        return text.byteAt(0) == '-' ? -value : value;
    }

    private static int orderOf(int a, int b) {
        if (a == b) {
            return 0;
        }
        return a < b ? -1 : 1;
    }

    /** A row of bytes that grows in a room of its own. */
    private static final class Row {
        private final byte[] bytes;
        private int length = 0;

        Row(int room) {
            bytes = new byte[Math.max(room, 0)];
        }

        int size() {
            return length;
        }

        int byteAt(int place) {
            return place >= 0 && place < length && place < bytes.length ? bytes[place] : NONE;
        }

        /** Every room is chosen so that nothing is lost here. */
        void add(int b) {
            if (length >= 0 && length < bytes.length) {
                bytes[length] = (byte) b;
                length++;
            }
        }

        void addRange(Row from, int begin, int end) {
            int stop = Math.min(end, from.length);
            for (int i = Math.max(begin, 0); i < stop; i++) {
                add(from.byteAt(i));
            }
        }

        void addText(String text) {
            for (int i = 0; i < text.length(); i++) {
                add(text.charAt(i));
            }
        }

        /** Labels are the only numbers that are told, so three digits are all there can be. */
        void addNumber(int number) {
            if (number >= 100) {
                add('0' + number / 100 % 10);
            }
            if (number >= 10) {
                add('0' + number / 10 % 10);
            }
            add('0' + number % 10);
        }

        void set(int place, int b) {
            if (place >= 0 && place < length && place < bytes.length) {
                bytes[place] = (byte) b;
            }
        }

        void cutTo(int newLength) {
            if (newLength >= 0 && newLength < length) {
                length = newLength;
            }
        }

        Row copy() {
            Row made = new Row(length);
            made.addRange(this, 0, length);
            return made;
        }

        int order(Row other) {
            int both = Math.min(length, other.length);
            for (int i = 0; i < both; i++) {
                int found = orderOf(byteAt(i), other.byteAt(i));
                if (found != 0) {
                    return found;
                }
            }
            return orderOf(length, other.length);
        }

        boolean beginsWith(Row other) {
            if (other.length > length) {
                return false;
            }
            for (int i = 0; i < other.length; i++) {
                if (byteAt(i) != other.byteAt(i)) {
                    return false;
                }
            }
            return true;
        }

        boolean hasThere(int place, String text) {
            for (int i = 0; i < text.length(); i++) {
                if (byteAt(place + i) != text.charAt(i)) {
                    return false;
                }
            }
            return true;
        }

        boolean isRest(int place, String text) {
            return length - place == text.length() && hasThere(place, text);
        }

        /** The first place from here on with one of the stops; the row's end, if there is none. */
        int nextOf(int from, String stops) {
            for (int i = Math.max(from, 0); i < length; i++) {
                if (stops.indexOf((char) byteAt(i)) >= 0) {
                    return i;
                }
            }
            return length;
        }

        int lastSlash(int begin, int end) {
            for (int i = Math.min(end, length) - 1; i >= begin && i >= 0; i--) {
                if (byteAt(i) == '/') {
                    return i;
                }
            }
            return NONE;
        }
    }

    /** A term; or one that is made up, to be looked for, in rooms that are used again. */
    private static final class Term {
        /** Of an address its bytes, of a literal its text, of a label nothing. */
        final Row text;
        final Row tag;
        int kind = LABEL;
        int sort = PLAIN;
        int number = 0;

        Term(int textRoom, int tagRoom) {
            text = new Row(textRoom);
            tag = new Row(tagRoom);
        }

        void begin(int newKind, int newSort, int newNumber) {
            kind = newKind;
            sort = newSort;
            number = newNumber;
            text.cutTo(0);
            tag.cutTo(0);
        }

        Term copy() {
            Term made = new Term(text.size(), tag.size());
            made.begin(kind, sort, number);
            made.text.addRange(text, 0, text.size());
            made.tag.addRange(tag, 0, tag.size());
            return made;
        }

        private int rank() {
            if (kind == LABEL) {
                return 0;
            }
            return kind == ADDRESS ? 1 : 2;
        }

        /** What a kind does not have is 0 or empty, so it never tells two of that kind apart. */
        int order(Term other) {
            int found = orderOf(rank(), other.rank());
            if (found == 0) {
                found = orderOf(number, other.number);
            }
            if (found == 0) {
                found = text.order(other.text);
            }
            if (found == 0) {
                found = orderOf(sort, other.sort);
            }
            return found == 0 ? tag.order(other.tag) : found;
        }
    }

    private static final class Prefix {
        final Row name;
        Row address;

        Prefix(Row name, Row address) {
            this.name = name;
            this.address = address;
        }

        boolean tells(Row whole) {
            if (!whole.beginsWith(address)) {
                return false;
            }
            for (int i = address.size(); i < whole.size(); i++) {
                int b = whole.byteAt(i);
                if (!isLetterOrDigit(b) && b != '_' && b != '-') {
                    return false;
                }
            }
            return true;
        }

        /** Both tell the same address: of the same length they are the same. */
        boolean isBetterThan(Prefix other) {
            int found = orderOf(other.address.size(), address.size());
            return found == 0 ? name.order(other.name) < 0 : found < 0;
        }
    }

    /** A row of bytes read as a reference: where each of its parts begins and ends. */
    private static final class Reference {
        private final int[] begins = new int[PARTS];
        private final int[] ends = new int[PARTS];
        private Row row = new Row(0);

        void read(Row newRow) {
            row = newRow;
            for (int what = 0; what < PARTS; what++) {
                note(what, 0, NONE);
            }
            int colon = colonOfScheme();
            note(SCHEME, 0, colon);
            int place = colon == NONE ? 0 : colon + 1;
            if (row.hasThere(place, "//")) {
                int stop = row.nextOf(place + 2, "/?#");
                note(AUTHORITY, place + 2, stop);
                place = stop;
            }
            int pathEnd = row.nextOf(place, "?#");
            note(PATH, place, pathEnd);
            int hash = row.nextOf(pathEnd, "#");
            if (row.byteAt(pathEnd) == '?') {
                note(QUERY, pathEnd + 1, hash);
            }
            if (row.byteAt(hash) == '#') {
                note(FRAGMENT, hash + 1, row.size());
            }
        }

        private int colonOfScheme() {
            if (!isLetter(row.byteAt(0))) {
                return NONE;
            }
            for (int i = 1; i < row.size(); i++) {
                int b = row.byteAt(i);
                if (b == ':') {
                    return i;
                }
                if (!isLetterOrDigit(b) && b != '+' && b != '-' && b != '.') {
                    return NONE;
                }
            }
            return NONE;
        }

        private void note(int what, int begin, int end) {
            if (what >= 0 && what < begins.length && what < ends.length) {
                begins[what] = begin;
                ends[what] = end;
            }
        }

        private int beginOf(int what) {
            return what >= 0 && what < begins.length ? begins[what] : 0;
        }

        private int endOf(int what) {
            return what >= 0 && what < ends.length ? ends[what] : NONE;
        }

        /** An empty part is there too: only one that is not there ends nowhere. */
        boolean has(int what) {
            return endOf(what) != NONE;
        }

        int lengthOf(int what) {
            return has(what) ? endOf(what) - beginOf(what) : 0;
        }

        boolean hasPathFromTop() {
            return lengthOf(PATH) > 0 && row.byteAt(beginOf(PATH)) == '/';
        }

        void copyTo(Row out, int what) {
            if (has(what)) {
                out.addRange(row, beginOf(what), endOf(what));
            }
        }

        /** The path up to its last /, with it. */
        void copyFolderTo(Row out) {
            int slash = row.lastSlash(beginOf(PATH), endOf(PATH));
            if (slash != NONE) {
                out.addRange(row, beginOf(PATH), slash + 1);
            }
        }
    }

    /** Makes one address of a reference and a base, in a room that is used again. */
    private static final class Resolver {
        private final Row path = new Row(RESOLVING_ROOM);

        void resolveTo(Row out, Reference own, Reference base) {
            boolean ownScheme = own.has(SCHEME);
            boolean ownAuthority = ownScheme || own.has(AUTHORITY);
            boolean ownPath = ownAuthority || own.lengthOf(PATH) > 0;
            boolean ownQuery = ownPath || own.has(QUERY);
            (ownScheme ? own : base).copyTo(out, SCHEME);
            out.add(':');
            addBehind(out, "//", ownAuthority ? own : base, AUTHORITY);
            if (ownPath) {
                gatherPath(own, base, ownAuthority);
                addPlainPath(out);
            } else {
                base.copyTo(out, PATH);
            }
            addBehind(out, "?", ownQuery ? own : base, QUERY);
            addBehind(out, "#", own, FRAGMENT);
        }

        private static void addBehind(Row out, String mark, Reference from, int what) {
            if (from.has(what)) {
                out.addText(mark);
                from.copyTo(out, what);
            }
        }

        private void gatherPath(Reference own, Reference base, boolean ownAuthority) {
            path.cutTo(0);
            if (!ownAuthority && !own.hasPathFromTop()) {
                if (base.has(AUTHORITY) && base.lengthOf(PATH) == 0) {
                    path.add('/');
                } else {
                    base.copyFolderTo(path);
                }
            }
            own.copyTo(path, PATH);
        }

        private void addPlainPath(Row out) {
            int outBegin = out.size();
            int left = 0;
            // Each step takes at least one byte of the path, so its length is enough of them.
            int steps = path.size();
            for (int step = 0; step < steps && left < path.size(); step++) {
                if (path.hasThere(left, "../")) {
                    left += 3;
                } else if (path.hasThere(left, "./") || path.hasThere(left, "/./")) {
                    left += 2;
                } else if (path.isRest(left, "/.")) {
                    left += 1;
                    path.set(left, '/');
                } else if (path.hasThere(left, "/../")) {
                    left += 3;
                    dropLast(out, outBegin);
                } else if (path.isRest(left, "/..")) {
                    left += 2;
                    path.set(left, '/');
                    dropLast(out, outBegin);
                } else if (path.isRest(left, ".") || path.isRest(left, "..")) {
                    left = path.size();
                } else {
                    int stop = path.nextOf(left + 1, "/");
                    out.addRange(path, left, stop);
                    left = stop;
                }
            }
        }

        private static void dropLast(Row out, int outBegin) {
            int slash = out.lastSlash(outBegin, out.size());
            out.cutTo(slash == NONE ? outBegin : slash);
        }
    }
}
