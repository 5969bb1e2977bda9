/** Edges of what XML means: namespaces, values and texts, limits, which fault comes first, places, and what is read at all. */
public final class XmlMeaningTest {
    private static final String XML = "http://www.w3.org/XML/1998/namespace";
    private static final String OPF = "http://www.idpf.org/2007/opf";

    private final Due due = new Due();
    private final Xml xml = new Xml(due);

    public static void main(String[] args) {
        XmlMeaningTest test = new XmlMeaningTest();
        test.prefixes();
        test.declaredPrefixes();
        test.sameAttributes();
        test.whenItIsTold();
        test.innermost();
        test.attributesOfNone();
        test.namespaceValues();
        test.depth();
        test.elements();
        test.attributes();
        test.whatComesFirst();
        test.blanksOfValues();
        test.texts();
        test.lines();
        test.columns();
        test.firstThreeBytes();
        test.whatIsRead();
        test.notParsed();
        test.namespacesOfOthers();
        test.doctypes();
        test.mostElements();
        test.due.close();
    }

    private void right(String text) {
        xml.right(text);
    }

    private void wrong(String text) {
        xml.told(30, text);
    }

    private void prefixes() {
        right("<p:a xmlns:p='u'/>");
        right("<xml:a xml:b=''/>");
        right("<a xmlns:p='u'><p:b p:c=''/><b xmlns:q='v' p:c='' q:c=''/></a>");
        wrong("\u00a4<p:a/>");
        wrong("\u00a4<p:a xmlns:q='u'/>");
        wrong("\u00a4<p:a xmlns='u'/>");
        wrong("\u00a4<p:a p='u'/>");
        wrong("\u00a4<a p:b=''/>");
        wrong("\u00a4<P:a xmlns:p='u'/>");
        wrong("<a>\u00a4<p:b/></a>");
        wrong("<a><b xmlns:p='u'/>\u00a4<p:b/></a>");
        wrong("<a><b xmlns:p='u'></b>\u00a4<b p:c=''/></a>");
        wrong("\u00a4<xmlns:a/>");
        wrong("<a xmlns='u'>\u00a4<xmlns:b/></a>");
        wrong("\u00a4<xmln:a/>");
        wrong("\u00a4<XML:a/>");
    }

    private void declaredPrefixes() {
        wrong("\u00a4<a xmlns:xmlns='u'/>");
        wrong("\u00a4<a xmlns:xmlns='http://www.w3.org/2000/xmlns/'/>");
        wrong("\u00a4<a xmlns:xmlns=''/>");
        wrong("\u00a4<a xmlns:xml='u'/>");
        wrong("\u00a4<a xmlns:xml=''/>");
        wrong("\u00a4<a xmlns:xml='" + XML + "/'/>");
        right("<a xmlns:xml='" + XML + "' xml:b=''/>");
        wrong("\u00a4<a xmlns:p=''/>");
        wrong("<a xmlns:p='u'>\u00a4<b xmlns:p=''/></a>");
        right("<a xmlns:p=' '/>");
        right("<a xmlns=''/>");
        right("<a xmlns='u'><b xmlns=''/></a>");
    }

    private void sameAttributes() {
        wrong("\u00a4<a b='' b=''/>");
        wrong("\u00a4<a b='1' c='' d='' b='2'/>");
        right("<a b='' B='' bb='' b.='' _b=''/>");
        wrong("\u00a4<a xmlns:p='u' p:b='' p:b=''/>");
        wrong("\u00a4<a xmlns:p='u' xmlns:q='u' p:b='' q:b=''/>");
        wrong("\u00a4<a p:b='' q:b='' xmlns:p='u' xmlns:q='u'/>");
        wrong("\u00a4<a xmlns:p='u' xmlns:q='&#117;' p:b='' q:b=''/>");
        wrong("<r xmlns:p='u'><s xmlns:q='u'>\u00a4<a p:b='' q:b=''/></s></r>");
        right("<a xmlns:p='u' xmlns:q='U' p:b='' q:b=''/>");
        right("<a xmlns:p='u' p:b='' b=''/>");
        right("<a xmlns='u' xmlns:p='u' p:b='' b=''/>");
        right("<r xmlns:p='u' xmlns:q='u'><a xmlns:q='v' p:b='' q:b=''/></r>");
        wrong("\u00a4<a xmlns='u' xmlns='v'/>");
        wrong("\u00a4<a xmlns='' xmlns='u'/>");
        wrong("\u00a4<a xmlns='u' xmlns=''/>");
        wrong("\u00a4<a xmlns='' xmlns=''/>");
        wrong("\u00a4<a b='' b =''/>");
        wrong("\u00a4<a b ='' b\n= ''/>");
        wrong("\u00a4<a xmlns:p='u' xmlns:p='u'/>");
        right("<a xmlns:p='u' xmlns:q='u'/>");
        wrong("\u00a4<a xml:b='' xml:b=''/>");
        wrong("\u00a4<a xmlns:p='" + XML + "' xml:b='' p:b=''/>");
        right("<a xmlns:a='u' a='' a:a=''/>");
        right("<a a='' xmlns:a='u' a:a=''/>");
        right("<p:a p='' xmlns:p='u'/>");
        right("<r xmlns:p='u'><p:a p='' p:p=''/></r>");
        right("<a p='u' xmlns:p='v' q='' xmlns:q='v'/>");
    }

    /** When the > or / of an element's beginning has come: not ahead of what is wrong before that, but ahead of what is behind. */
    private void whenItIsTold() {
        for (String start : new String[] {"<p:b", "<b c='' c=''", "<b p:c=''", "<b xmlns:p=''", "<b xmlns:xml='u'", "<b xmlns:xmlns='u'"}) {
            wrong("<a>\u00a4" + start + "/></a>");
            wrong("<a>\u00a4" + start + "></b></a>");
            wrong("<a>\u00a4" + start + " /></a>");
            wrong("<a>\u00a4" + start + "/");
            wrong("<a>\u00a4" + start + "/x");
            wrong("<a>\u00a4" + start + ">");
            wrong("<a>\u00a4" + start + ">&</a>");
            wrong("<a>" + start + "\u00a4");
            wrong("<a>" + start + "\u00a4<");
            wrong("<a>" + start + " d='\u00a4<'/></a>");
            wrong("<a>" + start + " d='\u00a4&'/></a>");
        }
    }

    /** A package whose elements' namespaces are told in other ways, or are others. */
    private void innermost() {
        Book book = new Book();
        String pack = book.files.get(Book.PACK);
        String prefixed = pack.replaceAll("<(/?)(package|metadata|manifest|spine|meta|item|itemref)\\b", "<$1o:$2").replace("xmlns=",
            "xmlns:o=");
        new Book().put(Book.PACK, prefixed).due(due, "a prefix for all");
        new Book().swap(Book.PACK, "<manifest>", "<o:manifest xmlns:o='" + OPF + "'>").swap(Book.PACK, "</manifest>", "</o:manifest>")
            .due(due, "a prefix for one");
        new Book().swap(Book.PACK, "<manifest>", "<manifest xmlns='u'>").due(due, "another one for one", "52 E/p.opf <package");
        new Book().swap(Book.PACK, "<manifest>", "<manifest xmlns=''>").due(due, "none for one", "52 E/p.opf <package");
        new Book().swap(Book.PACK, "<spine>", "<x xmlns='u'><item/></x><spine>").due(due, "what lies in it");
        new Book().swap(Book.PACK, "<spine>", "<x xmlns=''/><spine>").due(due, "an element of none");
        new Book().swap(Book.PACK, "<spine>", "<x xmlns='u'><y xmlns='" + OPF + "'/></x><spine>")
            .due(due, "an inner one isn't in the root");
        new Book().swap(Book.PACK, "<spine>", "<dc:x xmlns:dc='u'/><x:x xmlns:x='" + OPF + "'/><spine>")
            .due(due, "the same namespace by a prefix", "52 E/p.opf <package");
        new Book().swap(Book.PACK, "<dc:title>T<", "<dc:title xmlns:dc='u'>T<").due(due, "a prefix told anew", "53 E/p.opf <metadata");
        new Book().swap(Book.PACK, "<dc:language>en</dc:language>", "<x xmlns:dc='u'><dc:x/></x><dc:language>en</dc:language>")
            .due(due, "only in what is in it");
    }

    private void attributesOfNone() {
        new Book().swap(Book.PACK, "<itemref idref='nav'/>", "<o:itemref xmlns:o='" + OPF + "' o:idref='nav'/>")
            .due(due, "an attribute with a prefix isn't of none", "66 E/p.opf <o:itemref", "73 E/nav.xhtml <a href='#'");
        new Book().swap(Book.PACK, "<itemref idref='nav'/>", "<itemref xmlns:idref='nav'/>")
            .due(due, "attributes of xmlns aren't looked at", "66 E/p.opf <itemref xmlns", "73 E/nav.xhtml <a href='#'");
        new Book().swap(Book.PACK, "<itemref idref='nav'/>", "<itemref idref='nav' xmlns:linear='no' xml:linear='no'/>")
            .due(due, "nor are those of xml");
        new Book().swap(Book.PACK, "<spine>", "<spine xml:id='nav' xmlns:id='page'>").due(due, "nor are their ids");
        new Book().swap(Book.PACK, " unique-identifier='uid'", " xmlns:unique-identifier='uid'")
            .due(due, "nor are the root's", "51 E/p.opf <package");
        new Book().swap(Book.NAV, "epub:type='toc'", "type='toc'").due(due, "a type of none", "70 E/nav.xhtml <html");
        new Book().swap(Book.NAV, "xmlns:epub='http://www.idpf.org/2007/ops'", "xmlns:epub='u'")
            .due(due, "a type of another", "70 E/nav.xhtml <html");
        new Book().swap(Book.NAV, "xmlns:epub='http://www.idpf.org/2007/ops'", "xmlns:epub='u' xmlns:e='http://www.idpf.org/2007/ops'")
            .swap(Book.NAV, "epub:type='toc'", "epub:type='x' e:type='toc' type='y'").due(due, "a type by another prefix");
    }

    private void namespaceValues() {
        for (String other : new String[] {OPF + "/", OPF.toUpperCase(), " " + OPF, OPF + "\n", "opf", OPF.substring(1)}) {
            new Book().swap(Book.PACK, OPF, other).due(due, "namespace [" + other + "]", "50 E/p.opf <package");
        }
        new Book().swap(Book.PACK, OPF, "http&#58;//www.idpf.org/&#x32;007/opf").due(due, "a namespace with references");
        new Book().swap(Book.PACK, "xmlns='" + OPF + "'", "xmlns=\n\"" + OPF + "\"").due(due, "a namespace in other quotes");
    }

    private static String nested(int n, String inside) {
        return "<a>".repeat(n) + inside + "</a>".repeat(n);
    }

    private void depth() {
        right(nested(20, ""));
        right(nested(19, "<b/>"));
        right(nested(19, "<b/><b></b><c/>"));
        xml.told(31, nested(20, "\u00a4<b/>"));
        xml.told(31, nested(20, "\u00a4<b></b>"));
        xml.told(31, nested(20, "x\n\u00a4<b"));
        xml.told(31, nested(20, "\u00a4<p:b c='"));
        wrong(nested(20, "<\u00a4 b/>"));
        wrong(nested(20, "<\u00a4"));
        right(nested(20, "x<!-- <b/> --><?p <b/>?><![CDATA[<b/>]]>&lt;"));
        xml.told(31, nested(20, "\u00a4<b/>&"));
    }

    private void elements() {
        right("<r>" + "<b/>".repeat(299) + "</r>");
        xml.told(31, "<r>" + "<b/>".repeat(299) + "\u00a4<b/></r>");
        xml.told(31, "<r>" + "<b/>".repeat(299) + "\n\u00a4<b");
        wrong("<r>" + "<b/>".repeat(299) + "<\u00a41/></r>");
        right("<r>" + "<b></b>".repeat(299) + "<!-- <b/> --></r><?p?>");
        right("<r>" + "<b><c><d/></c></b>".repeat(99) + "<b/><b/></r>");
        xml.told(31, "<r>" + "<b><c><d/></c></b>".repeat(99) + "<b/><b/>\u00a4<b/></r>");
        wrong("<r>" + "<b/>".repeat(299) + "</r><\u00a4r/>");
    }

    private static String many(int n) {
        StringBuilder text = new StringBuilder();
        for (int i = 0; i < n; i++) {
            text.append(" a").append(i).append("='").append(i).append("'");
        }
        return text.toString();
    }

    private void attributes() {
        right("<r" + many(16) + "/>");
        right("<r" + many(16) + "><b" + many(16) + "/></r>");
        xml.told(31, "\u00a4<r" + many(17) + "/>");
        xml.told(31, "<r>\n <b/>\u00a4<r" + many(17) + "/></r>");
        xml.told(31, "\u00a4<r" + many(16) + " x");
        xml.told(31, "\u00a4<r" + many(16) + " x/>");
        wrong("<r" + many(16) + "\u00a4");
        wrong("<r" + many(16) + " \u00a4");
        wrong("<r" + many(16) + " \u00a4=''/>");
        wrong("<r" + many(16) + "\u00a4x=''/>");
        wrong("<r" + many(16) + " \u00a41=''/>");
        right("<r xmlns='u' xmlns:p='u'" + many(14) + "/>");
        right("<r xmlns='u' xmlns:p='u'" + many(14) + "></r>");
        xml.told(31, "\u00a4<r xmlns='u' xmlns:p='u'" + many(15) + "/>");
        xml.told(31, "\u00a4<r" + many(16) + " xmlns:p='u'/>");
        xml.told(31, "\u00a4<r a0='' " + many(16) + "/>");
        wrong("\u00a4<r a0=''" + many(15) + "/>");
    }

    /** Once a document: the first alone, 30 or 31. */
    private void whatComesFirst() {
        wrong("<a>\u00a4& & &</a>");
        wrong("<a>\u00a4&</b>");
        wrong("<a b='\u00a4&'>&</a>");
        wrong(nested(3, "\u00a4&") + "<a/>");
        wrong("\u00a4&" + nested(21, ""));
        xml.told(31, nested(20, "\u00a4<a/>") + "&");
        wrong("<r>\u00a4&" + "<b/>".repeat(310) + "</r>");
        xml.told(31, "<r>" + "<b/>".repeat(299) + "\u00a4<b>&</b></r>");
        xml.told(31, "<r>" + "<b/>".repeat(280) + nested(19, "\u00a4<b/>") + "</r>");
        xml.told(31, "<r>\u00a4<b" + many(17) + "/>" + nested(25, "") + "</r>");
        wrong("<r>\u00a4<b" + many(15) + " p:x=''/>" + nested(25, "") + "</r>");
    }

    /** Two ids, or an id and what tells it, that are the same only if values come out as they should. */
    private void same(String what, String one, String other, boolean same) {
        Book book = new Book().swap(Book.PACK, "idref='page'", "idref='" + one + "'").swap(Book.PACK, "id='page'", "id='" + other + "'");
        if (same) {
            book.due(due, what);
        } else {
            Desk desk = new Desk();
            desk.check(book.bytes());
            due.is(what + ": the first code", desk.message(0, 0), 66);
        }
    }

    private void blanksOfValues() {
        for (String blank : new String[] {" ", "\t", "\n", "\r", "\r\n"}) {
            same("a blank", "p" + blank + "q", "p q", true);
            same("two blanks", "p" + blank + "q", "p  q", false);
            same("a blank of a reference", "p" + blank + "q", "p&#32;q", true);
            same("blanks at both ends stay", blank + "p", "p", false);
        }
        same("13 13 10", "p\r\r\nq", "p  q", true);
        same("10 13", "p\n\rq", "p  q", true);
        same("13 9 10", "p\r\t\nq", "p   q", true);
        same("a reference to 9", "p&#9;q", "p q", false);
        same("a reference to 10", "p&#10;q", "p q", false);
        same("a reference to 13", "p&#13;q", "p q", false);
        same("13 by a reference, and 10", "p&#13;\nq", "p&#xD; q", true);
        same("13, and 10 by a reference", "p\r&#10;q", "p &#xA;q", true);
        same("signs by references", "&lt;&amp;&gt;&quot;&apos;&#x26;amp;", "&#60;&#38;>\"&#39;&amp;amp;", true);
        same("the widest chars", "&#x10FFFF;&#233;&#x20ac;", "\udbff\udfff\u00e9\u20ac", true);
        same("chars beside", "\u00e9", "\u00e8", false);
    }

    private void label(String inside, String want) {
        Desk desk = new Desk();
        desk.check(new Book().swap(Book.NAV, ">One<", ">" + inside + "<").bytes());
        due.is("label of " + inside, desk.label(0), want);
    }

    private void texts() {
        label("a<!-- x -->b<?p x?>c", "abc");
        label("a<![CDATA[b]]>c<![CDATA[]]>d", "abcd");
        label("a&#x62;&#99;&amp;&lt;&gt;&quot;&apos;", "abc&<>\"'");
        label("<![CDATA[&amp;<b>]]>", "&amp;<b>");
        label("<![CDATA[]]]]>", "]]");
        label("]]", "]]");
        label("a<![CDATA[ ]]>b", "a b");
        label("a\r\nb\rc\td\ne", "a b c d e");
        label("a&#13;&#10;b", "a b");
        label("\ud83d\ude00&#x1F600;\u0800\u07ff\u0080\u007f", "\ud83d\ude00\ud83d\ude00\u0800\u07ff\u0080\u007f");
        new Book().swap(Book.PACK, "<dc:title>T<", "<dc:title><x>T</x> <x>T</x><")
            .due(due, "the texts of inner elements aren't its own", "53 E/p.opf <metadata");
        new Book().swap(Book.PACK, "<dc:title>T<", "<dc:title> <x/>T<x/><").due(due, "its texts around inner ones are");
        new Book().swap(Book.PACK, "2024-02-29T23:59:59Z", "2024-<x>9</x>02-29<![CDATA[T2]]>&#51;:59:59Z").due(due, "one behind the other");
    }

    private void lines() {
        for (String line : new String[] {"\n", "\r", "\r\n"}) {
            wrong("<a>" + line + "\u00a4&</a>");
            wrong("<a>" + line + line + "  \u00a4&</a>");
            wrong("<a b='" + line + "\u00a4&'/>");
            wrong("<a" + line + "\u00a41/>");
            wrong(line + "<!--" + line + "-->" + line + "<?p " + line + "?><a><![CDATA[" + line + "]]>\u00a4&</a>");
            wrong("<a/>" + line + "\u00a4x");
            wrong("<a>x" + line + "\u00a4");
        }
        wrong("<a>\n\r\u00a4&</a>");
        wrong("<a>\r\r\u00a4&</a>");
        wrong("<a>\r\n\r\n\u00a4&</a>");
        wrong("<a>\u0085\u2028&#10;\u00a4&</a>");
        wrong("\n".repeat(5990) + "<a>\u00a4&");
    }

    private void columns() {
        wrong("<a>\u00e9\u20ac\ud83d\ude00\u00a4&</a>");
        wrong("<a>\t\t\u00a4&</a>");
        wrong("<a>" + "x".repeat(5990) + "\u00a4&");
        wrong("<a>" + "\ud83d\ude00".repeat(1490) + "\u00a4&");
        new Book().swap(Book.PACK, "<dc:title>T</dc:title>\n", "<dc:title>\u00e9\ud83d\ude00\u20ac</dc:title>\t").swap(Book.PACK,
            "<dc:language>", "<dc:language id='uid'>")
            .due(due, "an element behind wide chars", "58 E/p.opf <dc:language");
        Desk desk = new Desk();
        desk.check(new Book().swap(Book.PACK, "\n<dc:title>", "\r<dc:title a='\r' id='uid'>").swap(Book.PACK, "\n<dc:language>",
            "\r\n  <dc:language\r\nid='uid'>").bytes());
        due.is("elements in lines of all kinds", desk.report(), "58@2:4:1 58@2:6:3");
    }

    private void firstThreeBytes() {
        due.is("they aren't in the first line", Xml.report(Zip.utf8("\ufeff<a>&</a>")), "30@1:1:4");
        due.is("nor in another", Xml.report(Zip.utf8("\ufeff\n<a>&</a>")), "30@1:2:4");
        due.is("alone", Xml.report(Zip.utf8("\ufeff")), "30@1:1:1");
        due.is("twice", Xml.report(Zip.utf8("\ufeff\ufeff<a/>")), "30@1:1:1");
        due.is("not at the beginning", Xml.report(Zip.utf8(" \ufeff<a/>")), "30@1:1:2");
        due.is("the first of them", Xml.report(new byte[] {(byte) 239}), "30@1:1:1");
        due.is("the first two of them", Xml.report(new byte[] {(byte) 239, (byte) 187}), "30@1:1:1");
        due.is("with another behind", Xml.report(new byte[] {(byte) 239, (byte) 187, (byte) 190, '<', 'a', '/', '>'}), "30@1:1:1");
        due.is("a char whose second byte is another", Xml.report(Zip.utf8("\uff3f<a/>")), "30@1:1:1");
        due.is("a char whose first byte is another", Xml.report(Zip.utf8("\u1eff<a/>")), "30@1:1:1");
        due.is("a char whose third byte is another", Xml.report(Zip.utf8("\ufefe<a/>")), "30@1:1:1");
        due.is("in a text they count", Xml.report(Zip.utf8("<a>\ufeff&</a>")), "30@1:1:5");
    }

    /** Only the container, the package, pages, overlays and the encryption are read. */
    private void whatIsRead() {
        new Book().put("META-INF/x.xml", "<").put("META-INF/manifest.xml", "<").due(due, "others beside the container");
        new Book().swap(Book.CONTAINER, "</rootfiles>",
            "<rootfile full-path='q.opf' media-type='application/oebps-package+xml'/></rootfiles>").put("q.opf", "<")
            .due(due, "another package", "90 q.opf");
        for (String type : new String[] {"text/html", "application/xml", "image/svg+xml", "application/xhtml", "application/xhtml+xml ",
            "Application/xhtml+xml", "application/smil", "application/oebps-package+xml"}) {
            new Book().item("id='z' href='z' media-type='" + type + "'").put("E/z", "<").due(due, "an item of " + type);
        }
        for (String type : new String[] {"application/xhtml+xml", "application/smil+xml"}) {
            Book book = new Book().item("id='z' href='z' media-type='" + type + "'").put("E/z", "<");
            due.is("an item of " + type, new Desk().report(book.bytes()), "30@6:1:2");
        }
        new Book().item("id='z' href='z#' media-type='application/xhtml+xml'").put("E/z", "<")
            .due(due, "not with 59", "59 E/p.opf <item id='z'", "90 E/z");
        new Book().item("href='z' media-type='application/xhtml+xml'").put("E/z", "<")
            .due(due, "not with 57", "57 E/p.opf <item href='z'", "90 E/z");
        new Book().put("E/z.xhtml", "<").due(due, "no item", "90 E/z.xhtml");
    }

    /** Nothing else is told of a document that isn't parsed. */
    private void notParsed() {
        due.is("the container", new Desk().report(new Book().put(Book.CONTAINER, "<x>").bytes()), "30@1:1:4");
        due.is("the package", new Desk().report(new Book().put(Book.PACK, "<x>").bytes()), "30@2:1:4");
        due.is("the package with 31", new Desk().report(new Book().put(Book.PACK, nested(21, "")).bytes()), "31@2:1:61");
        due.is("the navigation", new Desk().report(new Book().put(Book.NAV, "<x><img xmlns='http://www.w3.org/1999/xhtml'/>").bytes()),
            "30@3:1:" + (4 + "<img xmlns='http://www.w3.org/1999/xhtml'/>".length()));
        due.is("a page", new Desk().report(new Book().put(Book.PAGE, "<x>").bytes()), "30@4:1:4");
        due.is("a page with 31", new Desk().report(new Book().put(Book.PAGE, nested(21, "")).bytes()), "31@4:1:61");
        due.is("the encryption", new Desk().report(new Book().put(Book.ENCRYPTION, "<x>").bytes()), "30@6:1:4");
        Zip zip = new Book().zip();
        zip.deflated(Book.ENCRYPTION, Zip.latin("<x>")).flags = 1;
        zip.entries.get(3).flags = 1;
        zip.entries.get(4).flags = 1;
        due.is("what isn't read", new Desk().report(zip.bytes()), "13@3:0:0 13@4:0:0 13@6:0:0");
    }

    /** Where one namespace is asked for, no other one that is known will do. */
    private void namespacesOfOthers() {
        String[] all = {XML, "urn:oasis:names:tc:opendocument:xmlns:container", OPF, "http://purl.org/dc/elements/1.1/",
            "http://www.w3.org/1999/xhtml", "http://www.idpf.org/2007/ops", "http://www.w3.org/ns/SMIL",
            "http://www.w3.org/2001/04/xmlenc#", "u"};
        String smil = "<smil xmlns='http://www.w3.org/ns/SMIL' version='3.0'><body><par><text src='nav.xhtml'/></par></body></smil>";
        String data = "<encryption xmlns='urn:oasis:names:tc:opendocument:xmlns:container'><x:EncryptedData xmlns:x='http://www.w3.org/2001/04/xmlenc#'/></encryption>";
        for (String other : all) {
            if (!other.equals(all[1])) {
                new Book().swap(Book.CONTAINER, all[1], other).due(due, "a container of " + other, "40 META-INF/container.xml <");
                new Book().put(Book.ENCRYPTION, data.replace(all[1], other))
                    .due(due, "an encryption of " + other, "80 META-INF/encryption.xml <");
            }
            if (!other.equals(OPF)) {
                new Book().swap(Book.PACK, OPF, other).due(due, "a package of " + other, "50 E/p.opf <");
            }
            if (!other.equals(all[3])) {
                new Book().swap(Book.PACK, "<dc:title>", "<dc:title xmlns:dc='" + other + "'>")
                    .due(due, "a title of " + other, "53 E/p.opf <metadata");
            }
            if (!other.equals(all[4])) {
                new Book().put(Book.PAGE, "<html xmlns='" + other + "'><img/></html>")
                    .due(due, "a page of " + other, "75 E/t/page.xhtml <");
            }
            if (!other.equals(all[5])) {
                new Book().swap(Book.NAV, all[5], other).due(due, "a type of " + other, "70 E/nav.xhtml <html");
            }
            if (!other.equals(all[6])) {
                new Book().item("id='o' href='o' media-type='application/smil+xml'").put("E/o", smil.replace(all[6], other))
                    .due(due, "an overlay of " + other, "26 E/o <");
            }
            if (!other.equals(all[7])) {
                new Book().put(Book.ENCRYPTION, data.replace(all[7], other)).due(due, "data of " + other);
            }
        }
        new Book().put(Book.ENCRYPTION, data).due(due, "data of its own", "81 META-INF/encryption.xml <x:");
    }

    private void doctypes() {
        Book book = new Book().put(Book.ENCRYPTION, "<encryption xmlns='urn:oasis:names:tc:opendocument:xmlns:container'/>");
        for (String name : new String[] {Book.CONTAINER, Book.PACK, Book.NAV, Book.PAGE, Book.ENCRYPTION}) {
            book.put(name, "\ufeff<?xml version='1.0'?><!DOCTYPE x>" + book.files.get(name));
        }
        book.due(due, "each document may have one");
    }

    /** As many elements as a document may have, with something that none of them is. */
    private void mostElements() {
        String lost = "<meta property='role' refines='#q'>x</meta></metadata>";
        new Book().swap(Book.PACK, "</metadata>", lost).swap(Book.PACK, "</spine>", "<itemref idref='q'/></spine>" + "<x/>".repeat(285))
            .due(due, "a package", "33 E/p.opf <meta property='role'", "66 E/p.opf <itemref idref='q'");
        new Book().put(Book.PAGE, "<html xmlns='http://www.w3.org/1999/xhtml'>" + "<b/>".repeat(297) + "<img/>\n<a href='q'/></html>")
            .due(due, "a page", "76 E/t/page.xhtml <img", "77 E/t/page.xhtml <a");
        new Book().item("id='o' href='o' media-type='application/smil+xml'").meta("property='media:duration' refines='#o'", "1")
            .put("E/o", "<smil xmlns='http://www.w3.org/ns/SMIL' version='3.0'><body>" + "<seq/>".repeat(297) + "<par/></body></smil>")
            .due(due, "an overlay", mostOf("27 E/o ", 297));
        new Book().swap(Book.CONTAINER, "</rootfiles>", "</rootfiles>" + "<x/>".repeat(297)).due(due, "a container");
        new Book().swap(Book.CONTAINER, "</rootfiles>", "</rootfiles>" + "<x/>".repeat(297)).swap(Book.CONTAINER, "media-type", "x")
            .due(due, "a container without a package", "41 META-INF/container.xml <");
        new Book().put(Book.ENCRYPTION, "<encryption xmlns='urn:oasis:names:tc:opendocument:xmlns:container'>" + "<x/>".repeat(299)
            + "</encryption>").due(due, "an encryption");
    }

    /** So many messages at elements seq, and one at the par behind them. */
    private static String[] mostOf(String start, int n) {
        String[] all = new String[n + 1];
        StringBuilder steps = new StringBuilder(start + "<seq");
        for (int i = 0; i < n; i++) {
            all[i] = steps.toString();
            steps.append(">><seq");
        }
        all[n] = start + "<par";
        return all;
    }
}
