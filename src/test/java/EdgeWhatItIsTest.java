/** The document's first section, a method for each thing that its sentence names. */
public final class EdgeWhatItIsTest {
    private static final Sheet s = new Sheet();

    public static void main(String[] args) {
        publishedRules();
        textsTagsTypesLabels();
        toldShort();
        theSame();
        theSameValue();
        whatComesFirst();
        s.end();
    }

    /** RFC 3986: the parts of section 3, the two paths of section 5.2.4, one of each kind of section 5.4. */
    private static void publishedRules() {
        s.sentence("Terms of triples by the published rules: addresses that are resolved against a base");
        int whole = s.address("foo://example.com:8042/over/there?name=ferret#nose");
        s.dueParts(whole, 3, 16, 11, 11, 4);
        int urn = s.address("urn:example:animal:ferret:nose");
        s.dueParts(urn, 3, Sheet.NO, 26, Sheet.NO, Sheet.NO);
        s.dueFrom("http://h", "/a/b/c/./../../g", "http://h/a/g");
        s.dueFrom("s:", "mid/content=5/../6", "s:mid/6");
        s.dueFrom("http://a/b/c/d;p?q", "g;x?y#s", "http://a/b/c/g;x?y#s");
        s.dueFrom("http://a/b/c/d;p?q", "../../../g", "http://a/g");
        s.dueFrom("http://a/b/c/d;p?q", "http:g", "http:g");
    }

    private static void textsTagsTypesLabels() {
        s.sentence("texts with escapes, tags and types, labels");
        s.due("a text with escapes", s.shown(s.text("a\\tb\\u0022\\\\", 0), 0), "\"a\\tb\\\"\\\\\"");
        s.due("with a tag", s.shown(s.tag("de-CH-1996", 0), 0), "\"a\\tb\\\"\\\\\"@de-ch-1996");
        s.due("with a type", s.shown(s.text("12", 2), 0), "\"12\"^^whole");
        s.due("a label", s.shown(s.x.label(12), 0), "_:b12");
    }

    private static void toldShort() {
        s.sentence("prefixes that tell them short");
        s.name("rdf", s.address("http://www.w3.org/1999/02/22-rdf-syntax-ns#"));
        s.due("told short", s.shown(s.address("http://www.w3.org/1999/02/22-rdf-syntax-ns#type"), 1), "rdf:type");
        s.due("told long", s.x.print(1, 0), 49);
    }

    private static void theSame() {
        s.sentence("what is the same");
        s.due("by another base", s.address("a:/b/c"), 0);
        s.x.base(0);
        s.due("one address", s.address("../b/./c"), 0);
        s.due("one text", s.text("\\u0074", 0), s.text("t", 0));
        s.due("one tag", s.tag("EN", 1), s.tag("en", 1));
        s.due("one label", s.x.label(0), s.x.label(0));
        s.due("terms", s.x.count(0), 4);
    }

    private static void theSameValue() {
        s.sentence("what has the same value");
        s.due("two terms", s.text("007", 2) + s.text("+7", 2), 1);
        s.due("one value", s.x.alike(0, 1), 1);
        s.due("but not one", s.x.compare(0, 1), 1);
    }

    private static void whatComesFirst() {
        s.sentence("what comes first");
        s.text("a", 0);
        s.address("z:");
        s.x.label(999);
        s.due("a label before an address", s.x.compare(2, 1), -1);
        s.due("an address before a literal", s.x.compare(1, 0), -1);
        s.due("a label before a literal", s.x.compare(2, 0), -1);
    }
}
