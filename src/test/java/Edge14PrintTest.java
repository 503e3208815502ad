/** Promise 14, one method a sentence. */
public final class Edge14PrintTest {
    private static final Sheet s = new Sheet();

    public static void main(String[] args) {
        howMany();
        addresses();
        labels();
        texts();
        ends();
        longestLiteral();
        formOneIsTheSame();
        namesForAddresses();
        prefixIsItsBeginning();
        whatIsLeft();
        longestAddress();
        firstName();
        longestShort();
        noSuchTerm();
        noSuchForm();
        s.end();
    }

    private static void howMany() {
        s.sentence("A term is printed: how many bytes");
        s.due("the shortest address", s.x.print(s.address("a:"), 0), 4);
        s.due("the shortest label", s.x.print(s.x.label(0), 0), 4);
        s.due("the longest label", s.x.print(s.x.label(999), 0), 6);
        s.due("the shortest literal", s.x.print(s.text("", 0), 0), 2);
        s.due("the same again", s.x.print(3, 0), 2);
        s.due("of this print alone", s.x.at(2), Sheet.NO);
        s.due("an address of 96", s.x.print(s.address("a:" + "b".repeat(94)), 0), 98);
        s.name("", 0);
        s.due("the shortest of all", s.x.print(0, 1), 1);
        s.due("that byte", s.x.at(0), ':');
        s.due("nothing behind it", s.x.at(1), Sheet.NO);
    }

    private static void addresses() {
        s.sentence("Form 0: an address < it >");
        s.due("short", s.shown(s.address("a:"), 0), "<a:>");
        s.due("with all parts", s.shown(s.address("a://b/c?d#e"), 0), "<a://b/c?d#e>");
        s.name("p", 0);
        s.due("no prefix in this form", s.shown(0, 0), "<a:>");
        s.freshWithBase("abc:");
        String longest = "p".repeat(96);
        s.due("of 100 bytes", s.shown(s.address(longest), 0), "<abc:" + longest + ">");
    }

    private static void labels() {
        s.sentence("a label _:b and its number");
        for (int number = 0; number < 1000; number++) {
            if (number % 50 == 0) {
                s.fresh();
            }
            if (number < 150 || number % 50 < 3 || number > 950) {
                s.due("label " + number, s.shown(s.x.label(number), 0), "_:b" + number);
            }
        }
    }

    private static void texts() {
        s.sentence("a literal \" its text \", with \\t \\n \\r \\\" \\\\ for those bytes");
        s.due("nothing", s.shown(s.text("", 0), 0), "\"\"");
        for (int b = 32; b <= 126; b++) {
            if (b % 40 == 0) {
                s.fresh();
            }
            String written = b == '"' ? "\\\"" : b == '\\' ? "\\\\" : String.valueOf((char) b);
            s.due("byte " + b, s.shown(s.text(String.format("\\u%04x", b), 0), 0), "\"" + written + "\"");
        }
        s.fresh();
        s.due("byte 9", s.shown(s.text("\\u0009", 0), 0), "\"\\t\"");
        s.due("byte 10", s.shown(s.text("\\u000a", 0), 0), "\"\\n\"");
        s.due("byte 13", s.shown(s.text("\\u000d", 0), 0), "\"\\r\"");
        s.due("all", s.shown(s.text("\\t\\n\\r\\\"\\\\", 0), 0), "\"\\t\\n\\r\\\"\\\\\"");
    }

    private static void ends() {
        s.sentence("and of sort 1 @ and its tag, of 2, 3, 4 ^^whole, ^^truth, ^^other");
        s.due("sort 0", s.shown(s.text("t", 0), 0), "\"t\"");
        s.due("sort 1", s.shown(s.tag("EN-1", 0), 0), "\"t\"@en-1");
        s.due("sort 1 with the longest tag", s.shown(s.tag("abcdefgh-1234567", 0), 0), "\"t\"@abcdefgh-1234567");
        s.due("sort 2", s.shown(s.text("t", 2), 0), "\"t\"^^whole");
        s.due("sort 3", s.shown(s.text("t", 3), 0), "\"t\"^^truth");
        s.due("sort 4", s.shown(s.text("t", 4), 0), "\"t\"^^other");
        s.due("sort 2, empty", s.shown(s.text("", 2), 0), "\"\"^^whole");
    }

    private static void longestLiteral() {
        s.sentence("A term is printed: how many bytes");
        String text = "\\\\".repeat(40);
        s.text(text, 0);
        String tag = "abcdefgh-1234567";
        s.due("40 escapes and 16 of a tag", s.shown(s.tag(tag, 0), 0), "\"" + text + "\"@" + tag);
        s.due("40 escapes and a type", s.shown(s.text(text, 3), 0), "\"" + text + "\"^^truth");
    }

    private static void formOneIsTheSame() {
        s.sentence("Form 1: the same");
        s.address("a:");
        s.name("p", 0);
        s.x.label(0);
        s.text("a:b", 0);
        s.tag("en", 2);
        s.text("a:b", 2);
        s.text("a:b", 3);
        s.text("a:b", 4);
        s.address("b:b");
        for (int a = 1; a < 8; a++) {
            s.due("print(" + a + ", 1)", s.shown(a, 1), s.shown(a, 0));
        }
    }

    private static void namesForAddresses() {
        s.sentence("but an address as the name of a prefix, : and what is left of it");
        s.address("a:b/");
        s.address("a:b/c");
        s.due("without a prefix", s.shown(1, 1), "<a:b/c>");
        s.name("abcdef", 0);
        s.due("with one", s.shown(1, 1), "abcdef:c");
        s.due("nothing left", s.shown(0, 1), "abcdef:");
        s.fresh();
        s.address("a:b/");
        s.address("a:b/c");
        s.name("", 0);
        s.due("with the empty name", s.shown(1, 1), ":c");
        s.due("nothing left", s.shown(0, 1), ":");
    }

    private static void prefixIsItsBeginning() {
        s.sentence("when some prefix' address is its beginning");
        s.name("p", s.address("a:bc"));
        s.due("a longer one", s.shown(s.address("a:bcd"), 1), "p:d");
        s.due("a shorter one", s.shown(s.address("a:b"), 1), "<a:b>");
        s.due("another at its end", s.shown(s.address("a:bd"), 1), "<a:bd>");
        s.due("another at its beginning", s.shown(s.address("b:bc"), 1), "<b:bc>");
        s.due("great letters", s.shown(s.address("a:BCd"), 1), "<a:BCd>");
        s.due("not at its beginning", s.shown(s.address("x:a:bc"), 1), "<x:a:bc>");
    }

    private static void whatIsLeft() {
        s.sentence("and what is left is letters, digits, _ and - alone (perhaps nothing)");
        for (int b = 33; b <= 126; b++) {
            if (" \"<>\\^`{|}%".indexOf(b) < 0) {
                boolean good = b >= '0' && b <= '9' || b >= 'A' && b <= 'Z' || b >= 'a' && b <= 'z' || b == '_' || b == '-';
                s.fresh();
                s.name("p", s.address("a:/"));
                for (String left : new String[] {"" + (char) b, "x" + (char) b, (char) b + "x", "x" + (char) b + "x"}) {
                    s.due("left is " + left, s.shown(s.address("a:/" + left), 1), good ? "p:" + left : "<a:/" + left + ">");
                }
            }
        }
        s.fresh();
        s.name("p", s.address("a:/"));
        s.due("left is %41", s.shown(s.address("a:/%41"), 1), "<a:/%41>");
        s.due("left is nothing", s.shown(0, 1), "p:");
    }

    private static void longestAddress() {
        s.sentence("by the longest such address");
        int term = s.address("a:bcd");
        s.name("z", s.address("a:"));
        s.due("one", s.shown(term, 1), "z:bcd");
        s.name("y", s.address("a:bc"));
        s.due("a longer one", s.shown(term, 1), "y:d");
        s.name("a", s.address("a:b"));
        s.due("one between", s.shown(term, 1), "y:d");
        s.name("x", term);
        s.due("the whole", s.shown(term, 1), "x:");
        s.name("w", s.address("a:bcde"));
        s.due("one too long", s.shown(term, 1), "x:");
        s.due("of the others", s.shown(s.address("a:bcx"), 1), "y:x");
    }

    private static void firstName() {
        s.sentence("of the same by the name that comes first in THE ORDER of bytes");
        int term = s.address("a:b");
        int whole = s.address("a:");
        String[] names = {"z", "y", "yy", "b", "bb", "ba", "aazz", ""};
        String[] first = {"z", "y", "y", "b", "b", "b", "aazz", ""};
        for (int i = 0; i < names.length; i++) {
            s.name(names[i], whole);
            s.due("with the name " + names[i], s.shown(term, 1), first[i] + ":b");
        }
        s.fresh();
        term = s.address("a:b");
        s.name("a", s.address("a:"));
        s.name("z", term);
        s.due("the longer address before the first name", s.shown(term, 1), "z:");
    }

    private static void longestShort() {
        s.sentence("Form 1: the same, but an address as the name of a prefix, : and what is left of it");
        s.freshWithBase("a:b/");
        s.name("abcdef", 0);
        String left = "c".repeat(95) + "Z";
        s.due("six letters, : and 96 bytes", s.shown(s.address(left), 1), "abcdef:" + left);
    }

    private static void noSuchTerm() {
        s.sentence("BAD: no such term");
        s.due("print(0, 0) without terms", s.x.print(0, 0), Sheet.BAD);
        s.due("nothing was printed", s.x.at(0), Sheet.NO);
        s.x.label(7);
        s.x.print(0, 0);
        for (int form = 0; form < 2; form++) {
            s.due("print(1, " + form + ")", s.x.print(1, form), Sheet.BAD);
            for (int a : Sheet.NEVER_TERMS) {
                s.due("print(" + a + ", " + form + ")", s.x.print(a, form), Sheet.BAD);
            }
        }
        s.due("what was printed stays", s.x.at(3), '7');
    }

    private static void noSuchForm() {
        s.sentence("BAD: no such term, or form");
        s.x.label(7);
        s.address("a:b");
        s.text("t", 0);
        s.x.print(0, 0);
        for (int a = 0; a < 4; a++) {
            for (int form : new int[] {-1, -2, 2, 3, Integer.MIN_VALUE, Integer.MAX_VALUE}) {
                s.due("print(" + a + ", " + form + ")", s.x.print(a, form), Sheet.BAD);
            }
        }
        s.due("what was printed stays", s.x.at(3), '7');
    }
}
