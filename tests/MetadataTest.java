/** The package's root and metadata: 50 to 58, 23, 32 to 35. */
public final class MetadataTest {
    private static final String MOMENT = "2024-02-29T23:59:59Z";

    private final Due due = new Due();

    public static void main(String[] args) {
        MetadataTest test = new MetadataTest();
        test.roots();
        test.identifiers();
        test.texts();
        test.moments();
        test.prefixes();
        test.metas();
        test.refines();
        test.rootsBeside();
        test.partsInOrder();
        test.idsOfAll();
        test.identifiersInOrder();
        test.textsOfBlanks();
        test.daysOfMonths();
        test.charsOfMoments();
        test.countsOfModified();
        test.wordsOfPrefixes();
        test.propertiesWithPrefixes();
        test.metasThatAreNone();
        test.ringsOfRefines();
        test.nothingElse();
        test.firstAndLast();
        test.endsOfValues();
        test.due.close();
    }

    private Book pack(String from, String to) {
        return new Book().swap(Book.PACK, from, to);
    }

    private void roots() {
        String root = "<package";
        pack("version='3.0'", "version='3.1'").due(due, "version", "50 E/p.opf " + root);
        pack(" version='3.0'", "").due(due, "no version", "50 E/p.opf " + root);
        pack("http://www.idpf.org/2007/opf", "http://www.idpf.org/2007/OPF").due(due, "namespace", "50 E/p.opf " + root);
        new Book().put(Book.PACK, "<x/>").due(due, "another root", "50 E/p.opf <x");
        pack("<spine>", "<x/><spine>").due(due, "one more ahead", "52 E/p.opf " + root);
        pack("<spine>", "<x xmlns='u'/><spine>").due(due, "one of another namespace");
        pack("</spine>", "</spine><guide/><x/>").due(due, "more behind");
        pack("</spine>", "</spine><guide/><metadata/>").due(due, "metadata once more", "52 E/p.opf " + root);
        pack("</spine>", "</spine><manifest/>").due(due, "manifest once more", "52 E/p.opf " + root);
        pack("</spine>", "</spine><spine/>").due(due, "spine once more", "52 E/p.opf " + root);
        pack("</spine>", "<spine/></spine>").due(due, "a spine in the spine");
        pack("<metadata xml", "<manifest/><metadata xml").due(due, "manifest first", "52 E/p.opf " + root);
        new Book().put(Book.PACK, "<package xmlns='http://www.idpf.org/2007/opf' version='3.0'/>")
            .due(due, "nothing", "52 E/p.opf " + root);
        new Book().put(Book.PACK, "<package xmlns='http://www.idpf.org/2007/opf' version='3.0'><metadata/><manifest/></package>")
            .due(due, "no spine", "52 E/p.opf " + root);
        new Book().put(Book.PACK, "<package xmlns='http://www.idpf.org/2007/opf' version='3.0'><metadata/><manifest/><spine/></package>")
            .due(due, "empty ones", "51 E/p.opf " + root, "53 E/p.opf <metadata", "54 E/p.opf <metadata", "55 E/p.opf <metadata",
                "56 E/p.opf <metadata", "64 E/p.opf <manifest", "68 E/p.opf <spine", "90 E/nav.xhtml", "90 E/t/page.xhtml",
                    "90 E/i/pic.png");
    }

    private void identifiers() {
        pack(" unique-identifier='uid'", "").due(due, "no unique-identifier", "51 E/p.opf <package");
        pack("unique-identifier='uid'", "unique-identifier='ui'").due(due, "another id", "51 E/p.opf <package");
        pack("unique-identifier='uid'", "unique-identifier='page'").due(due, "the id of another element", "51 E/p.opf <package");
        pack("unique-identifier='uid'", "unique-identifier=''").swap(Book.PACK, "id='uid'", "id=''").due(due, "an empty id is one");
        pack("</metadata>", "<x><dc:identifier id='u2'>x</dc:identifier></x></metadata>").swap(Book.PACK, "unique-identifier='uid'",
            "unique-identifier='u2'")
            .due(due, "not in metadata itself", "51 E/p.opf <package");
        pack("<dc:identifier id='uid'>urn:x:1</dc:identifier>", "<identifier id='uid'>x</identifier>")
            .due(due, "of another namespace", "51 E/p.opf <package", "55 E/p.opf <metadata");
        pack("<dc:title>", "<dc:title id='uid'>").due(due, "an id again", "58 E/p.opf <dc:title");
        pack("<dc:title>", "<dc:title id=''>").swap(Book.PACK, "<dc:language>", "<dc:language id=''>")
            .due(due, "an empty id again", "58 E/p.opf <dc:language");
        pack("<spine>", "<spine id='nav'>").swap(Book.PACK, "<itemref idref='nav'", "<itemref id='nav' idref='nav'")
            .due(due, "ids again", "58 E/p.opf <spine", "58 E/p.opf <itemref id");
        pack("<spine>", "<spine xmlns:q='u' q:id='nav'>").due(due, "an id of a namespace is none");
        pack("<dc:title>", "<x xmlns='u' id='z'/><dc:title id='z'>").due(due, "ids of elements of any namespace", "58 E/p.opf <dc:title");
    }

    private void texts() {
        pack("<dc:title>T<", "<dc:title> \n\t<").due(due, "a blank title", "53 E/p.opf <metadata");
        pack("<dc:title>T</dc:title>", "<dc:title><x>T</x></dc:title>").due(due, "a title's own text counts", "53 E/p.opf <metadata");
        pack("<dc:title>T</dc:title>", "<title>T</title><x><dc:title>T</dc:title></x>").due(due, "no title in it", "53 E/p.opf <metadata");
        pack("<dc:title>T</dc:title>", "<dc:title/><dc:title>&#160;</dc:title>").due(due, "one of two titles is enough");
        pack("<dc:title>T</dc:title>", "<dc:title><![CDATA[x]]></dc:title>").due(due, "a title of CDATA");
        pack("<dc:language>en</dc:language>", "").due(due, "no language", "54 E/p.opf <metadata");
        pack("urn:x:1", " ").due(due, "a blank identifier", "55 E/p.opf <metadata");
        pack("urn:x:1</dc:identifier>", " </dc:identifier><dc:identifier>x</dc:identifier>").due(due, "another identifier");
    }

    private void moments() {
        String[] right = {"2024-02-29T23:59:59Z", " \n2000-02-29T00:00:00Z\t", "0000-02-29T00:00:00Z", "0001-01-01T00:00:00Z",
            "9999-12-31T12:00:00Z",
            "2023-04-30T00:00:00Z", "2023-01-31T00:00:00Z", "2023-03-31T00:00:00Z", "2023-05-31T00:00:00Z", "2023-06-30T00:00:00Z",
            "2023-07-31T00:00:00Z", "2023-08-31T00:00:00Z", "2023-09-30T00:00:00Z", "2023-10-31T00:00:00Z", "2023-11-30T00:00:00Z",
                "<!-- c -->2023-02-28<x/>T00:00:00Z"};
        for (String text : right) {
            pack(MOMENT, text).due(due, "modified " + text);
        }
        String[] wrong = {"", "2023-02-29T00:00:00Z", "1900-02-29T00:00:00Z", "2024-02-30T00:00:00Z", "2023-04-31T00:00:00Z",
            "2023-06-31T00:00:00Z",
            "2023-09-31T00:00:00Z", "2023-11-31T00:00:00Z", "2023-12-32T00:00:00Z", "2023-13-01T00:00:00Z", "2023-00-01T00:00:00Z",
                "2023-01-00T00:00:00Z",
            "2023-01-01T24:00:00Z", "2023-01-01T00:60:00Z", "2023-01-01T00:00:60Z", "2023-01-01T00:00:00z", "2023-01-01 00:00:00Z",
                "2023-01-01T00:00:00",
            "2023-01-01T00:00:00ZZ", "023-01-01T00:00:00Z", "2023/01/01T00:00:00Z", "2023-1-01T00:00:00Z", "+023-01-01T00:00:00Z", "x"};
        for (String text : wrong) {
            Book book = pack(MOMENT, text);
            if (text.isEmpty()) {
                book.due(due, "modified " + text, "56 E/p.opf <metadata", "32 E/p.opf <meta prop");
            } else {
                book.due(due, "modified " + text, "56 E/p.opf <metadata");
            }
        }
        new Book().meta("property='dcterms:modified'", MOMENT).due(due, "modified twice", "56 E/p.opf <metadata");
        new Book().meta("property='dcterms:modified' refines='#uid'", "x").due(due, "modified of something");
        new Book().meta("property='dcterms:modified' name='x'", MOMENT).due(due, "modified with a name", "56 E/p.opf <metadata");
        pack("'dcterms:modified'", "'dcterms:modified '").due(due, "a property beside", "56 E/p.opf <metadata");
    }

    private void prefixes() {
        String[] right = {"", " \n", "a: x", "A: x", "z: x", "Z: x", "_: x", "a0A9Zz: x", "a: x b: y", "\t_a.-9: x\n", "a: a:",
            "a: x a: y"};
        for (String text : right) {
            pack("version='3.0'", "version='3.0' prefix='" + text + "'").due(due, "prefix " + text);
        }
        String[] wrong = {"a", "a:", "a: x b", "a: x b:", "a x", ": x", "1a: x", "@: x", "[: x", "`: x", "{: x", "a@: x", "a[: x", "a/: x",
            "a;: x", "-a: x", ".a: x", "a:b x", "a:: x", "\u00e9: x", "a+: x"};
        for (String text : wrong) {
            pack("version='3.0'", "version='3.0' prefix='" + text + "'").due(due, "prefix " + text, "23 E/p.opf <package");
        }
        String prefix = "version='3.0' prefix='a: x b: y 1: z c: w'";
        pack("version='3.0'", prefix).meta("property='a:q'", "x").meta("property='b:q'", "x")
            .due(due, "prefixes ahead of what is wrong", "23 E/p.opf <package");
        pack("version='3.0'", prefix).meta("property='c:q'", "x")
            .due(due, "prefixes behind it", "23 E/p.opf <package", "35 E/p.opf <meta property='c");
        pack("version='3.0'", "version='3.0' prefix='a: x b:'").meta("property='b:q'", "x")
            .due(due, "one whose second word is missing", "23 E/p.opf <package");
        pack("version='3.0'", "version='3.0' prefix='ab: x'").meta("property='a:q'", "x").meta("property='abc:q'", "x")
            .due(due, "prefixes nearly the same", "35 E/p.opf <meta property='a:", "35 E/p.opf <meta property='abc");
        pack("version='3.0'", "version='3.0' prefix='x: ab:'").meta("property='ab:q'", "x")
            .due(due, "a second word is no prefix", "35 E/p.opf <meta property='ab:");
    }

    private void metas() {
        String at = "E/p.opf <meta property='dcterms:mod>><meta ";
        new Book().meta("x='y'", "x").due(due, "no property", "32 " + at);
        new Book().meta("property=''", "x").due(due, "an empty property", "32 " + at);
        new Book().meta("property='role'", "").due(due, "no text", "32 " + at);
        new Book().meta("property='role'", " &#9;\n").due(due, "blank text", "32 " + at);
        new Book().meta("property='role'", "<x>y</x>").due(due, "text in another", "32 " + at);
        pack("<dc:identifier", "<meta/><dc:identifier").due(due, "the first element", "32 E/p.opf <meta/");
        new Book().meta("name='n' x='y'", "").due(due, "one with a name");
        new Book().swap(Book.PACK, "</manifest>", "<meta/></manifest>").due(due, "one in the manifest");
        for (String word : "alternate-script authority belongs-to-collection collection-type display-seq file-as group-position identifier-type meta-auth role source-of term title-type a11y:x dcterms:x marc:x media:x onix:x rendition:x schema:x xsd:x a11y:b:c".split(" ")) {
            new Book().meta("property='" + word + "'", "x").due(due, "property " + word);
        }
        for (String word : new String[] {"Role", "rol", "roles", "role ", " role", "x:y", ":x", ":", "a11y:", "role:x", "xsd:", "role term",
            " ", "dcterms"}) {
            new Book().meta("property='" + word + "'", "x").due(due, "property " + word, "35 " + at);
        }
    }

    private void refines() {
        String at = "E/p.opf <meta property='dcterms:mod>><meta ";
        new Book().meta("property='role' refines='#uid'", "x").due(due, "refines");
        pack("version='3.0'", "version='3.0' id='r'").meta("property='role' refines='#r'", "x").due(due, "refines the root");
        pack("version='3.0'", "version='3.0' id='page'").due(due, "the root's id again", "58 E/p.opf <item id='page'");
        new Book().meta("property='role' refines='uid'", "x").due(due, "refines without #", "33 " + at);
        new Book().meta("property='role' refines='#u'", "x").due(due, "refines of none", "33 " + at);
        new Book().meta("property='role' refines=''", "x").due(due, "empty refines", "33 " + at);
        new Book().meta("property='role' refines='#'", "x").due(due, "refines of #", "33 " + at);
        new Book().meta("property='role' refines='#' id=''", "x").due(due, "refines of an empty id: itself", "34 " + at);
        new Book().meta("property='role' refines='#a' id='a'", "x").due(due, "refines itself", "34 " + at);
        new Book().meta("property='role' refines='#page'", "x").due(due, "refines an item");
        Book ring = new Book().meta("property='role' refines='#b' id='a'", "x").meta("property='role' refines='#a' id='b'", "x")
            .meta("property='role' refines='#a' id='c'", "x");
        ring.due(due, "a ring of two, and one that leads to it", "34 E/p.opf <meta property='role' refines='#b'",
            "34 E/p.opf <meta property='role' refines='#a' id='b'");
        ring = new Book().meta("property='role' refines='#b' id='a'", "x").meta("name='n' refines='#a' id='b'", "x");
        ring.due(due, "one with a name leads nowhere");
        ring = new Book().swap(Book.PACK, "<dc:title>", "<dc:title id='a'>").meta("property='role' refines='#a' id='a'", "x");
        ring.due(due, "the first with an id counts", "58 " + at);
    }

    private void rootsBeside() {
        for (String version : new String[] {"", "3", "3.", "3.00", "03.0", " 3.0", "3.0 ", "2.0", "3.1"}) {
            pack("version='3.0'", "version='" + version + "'").due(due, "version [" + version + "]", "50 E/p.opf <package");
        }
        pack("version='3.0'", "Version='3.0'").due(due, "another attribute", "50 E/p.opf <package");
        pack("version='3.0'", "xmlns:o='http://www.idpf.org/2007/opf' o:version='3.0'")
            .due(due, "an attribute of a namespace", "50 E/p.opf <package");
        new Book().put(Book.PACK, "\n <Package xmlns='http://www.idpf.org/2007/opf' version='3.0'/>")
            .due(due, "another name", "50 E/p.opf <Package");
        new Book().put(Book.PACK, "<package version='3.0'/>").due(due, "no namespace", "50 E/p.opf <package");
    }

    private void parts(String what, String inside, boolean right) {
        Book book = new Book().put(Book.PACK, "<package xmlns='http://www.idpf.org/2007/opf' version='3.0'>" + inside + "</package>");
        Desk desk = new Desk();
        desk.check(book.bytes());
        due.is("parts: " + what, desk.message(0, 0), right ? 51 : 52);
        due.is("parts: " + what + ": how many messages", desk.message(1, 0) == -3 ? 1 : 2, right ? 2 : 1);
    }

    private void partsInOrder() {
        String m = "<metadata/>";
        String i = "<manifest/>";
        String s = "<spine/>";
        parts("all", m + i + s, true);
        for (String wrong : new String[] {"", m, i, s, m + i, m + s, i + s, s + i + m, m + s + i, i + m + s, i + s + m, s + m + i, m + m + i
            + s, m + i + i + s, m + i + s + s, m + i + s + m, m + i + s + i,
            m + i + s + "<x/>" + s, "<x/>" + m + i + s, m + "<x/>" + i + s, m + i + "<x/>" + s, "<x>" + m + i + s + "</x>", m + i + "<x>"
                + s + "</x>", m + i + "<Spine/>"}) {
            parts(wrong, wrong, false);
        }
        for (String right : new String[] {m + i + s + "<x/>", m + i + s + "<x/><guide/><x/>", "<x xmlns='u'/>" + m + "<x xmlns=''/>" + i
            + "<metadata xmlns='u'/>" + s + "<spine xmlns='u'/>",
            m + i + s + "<x>" + m + i + s + "</x>", "t" + m + "t<!-- " + i + " -->" + i + s, "<metadata><metadata/><spine/></metadata>" + i
                + s}) {
            parts(right, right, true);
        }
    }

    private void idsOfAll() {
        pack("<package", "<package id='x'").swap(Book.PACK, "<metadata", "<metadata id='x'")
            .due(due, "the root's and metadata's", "58 E/p.opf <metadata");
        pack("<manifest>", "<manifest id='x'>").swap(Book.PACK, "<spine>", "<spine id='x'>").due(due, "parts'", "58 E/p.opf <spine");
        pack("<itemref idref='nav'/>", "<itemref id='' idref='nav'/>").swap(Book.PACK, "<itemref idref='page'/>",
            "<itemref id='' idref='page'/>")
            .due(due, "empty ones of refs", "58 E/p.opf <itemref id='' idref='page'");
        pack("</spine>", "</spine><x xmlns='u' id='nav'><y id='nav'/></x>")
            .due(due, "of other namespaces, deeper", "58 E/p.opf <x xmlns", "58 E/p.opf <y");
        pack("<dc:title>", "<dc:title id='Nav'>").due(due, "one in capitals is another");
        pack("<dc:title>", "<dc:title id='nav '>").due(due, "one with a blank is another");
        pack("<dc:title>", "<dc:title id='a'>").swap(Book.PACK, "<dc:language>", "<dc:language id='ab'>")
            .due(due, "a longer one is another");
        new Book().item("id='nav'").due(due, "one of an item that counts for nothing else", "57 E/p.opf <item id='nav'/",
            "58 E/p.opf <item id='nav'/");
        pack("<manifest>", "<manifest><item id='nav'/>").due(due, "one behind such an item", "57 E/p.opf <item id='nav'/",
            "58 E/p.opf <item id='nav' href");
        pack("<dc:title>", "<dc:title id='uid'>").swap(Book.PACK, "<dc:language>", "<dc:language id='uid'>")
            .due(due, "thrice", "58 E/p.opf <dc:title", "58 E/p.opf <dc:language");
    }

    private void identifiersInOrder() {
        pack("<dc:identifier id='uid'>", "<dc:identifier id='Uid'>").due(due, "capitals", "51 E/p.opf <package");
        pack("unique-identifier='uid'", "unique-identifier=' uid'").due(due, "a blank", "51 E/p.opf <package");
        pack("unique-identifier='uid'", "unique-identifier=''").due(due, "an empty one that no identifier has", "51 E/p.opf <package");
        pack("<dc:identifier id='uid'>", "<dc:identifier>").due(due, "an identifier without an id", "51 E/p.opf <package");
        pack("<dc:identifier id='uid'>urn:x:1</dc:identifier>", "<dc:title id='uid'>x</dc:title><dc:identifier id='uid'>x</dc:identifier>")
            .due(due, "an identifier behind another with its id", "58 E/p.opf <dc:identifier");
        pack("<spine>", "<spine xmlns:dc='http://purl.org/dc/elements/1.1/'><dc:identifier id='u2'>x</dc:identifier>").swap(Book.PACK,
            "unique-identifier='uid'", "unique-identifier='u2'")
            .due(due, "an identifier that isn't in metadata", "51 E/p.opf <package");
        pack("urn:x:1", "").swap(Book.PACK, "</dc:identifier>", "</dc:identifier><dc:identifier>x</dc:identifier>")
            .due(due, "an identifier without a text is one");
    }

    private void textsOfBlanks() {
        String[] names = {"title", "language", "identifier"};
        int[] codes = {53, 54, 55};
        for (int i = 0; i < 3; i++) {
            String at = codes[i] + " E/p.opf <metadata";
            String open = "<dc:" + names[i] + (i == 2 ? " id='uid'>" : ">");
            String close = "</dc:" + names[i] + ">";
            String old = open + (i == 0 ? "T" : i == 1 ? "en" : "urn:x:1") + close;
            for (String text : new String[] {"", " ", "\t\n\r ", "&#9;&#10;&#13;&#32;", "<![CDATA[ ]]>", "<!-- x -->", "<x>x</x>"}) {
                pack(old, open + text + close).due(due, names[i] + " of " + text, at);
            }
            for (String text : new String[] {"x", " x ", "&#160;", "\u00a0", "\u0085", "\u3000", "<![CDATA[x]]>", "&lt;", "<x/>x", "0"}) {
                pack(old, open + text + close).due(due, names[i] + " of " + text);
            }
            pack(old, open + " " + close + "<dc:" + names[i] + ">x</dc:" + names[i] + ">").due(due, names[i] + ": the second has one");
            pack(old, open.replace("dc:", "") + "x" + close.replace("dc:", ""))
                .due(due, names[i] + " of another namespace", i == 2 ? new String[] {at, "51 E/p.opf <package"} : new String[] {at});
            pack(old, "<x>" + open + "x" + close + "</x>").due(due, names[i] + " not in it", i == 2 ? new String[] {at,
                "51 E/p.opf <package"} : new String[] {at});
        }
    }

    private void moment(String text, boolean right) {
        Book book = pack(MOMENT, text);
        if (right) {
            book.due(due, "modified " + text);
        } else {
            book.due(due, "modified " + text, "56 E/p.opf <metadata");
        }
    }

    private void daysOfMonths() {
        int[] days = {31, 28, 31, 30, 31, 30, 31, 31, 30, 31, 30, 31};
        for (int month = 1; month <= 12; month++) {
            for (int day : new int[] {0, 1, 28, 29, 30, 31, 32, 99}) {
                moment(String.format("2023-%02d-%02dT00:00:00Z", month, day), day >= 1 && day <= days[month - 1]);
            }
        }
        for (int month : new int[] {0, 13, 20, 99}) {
            moment(String.format("2023-%02d-01T00:00:00Z", month), false);
        }
        for (int year : new int[] {0, 1, 4, 100, 200, 400, 1600, 1700, 1900, 2000, 2023, 2024, 2100, 2400, 9996, 9999}) {
            boolean leap = year % 4 == 0 && year % 100 != 0 || year % 400 == 0;
            moment(String.format("%04d-02-29T00:00:00Z", year), leap);
            moment(String.format("%04d-02-28T00:00:00Z", year), true);
            moment(String.format("%04d-02-30T00:00:00Z", year), false);
        }
        for (int n : new int[] {0, 9, 10, 23, 24, 59, 60, 99}) {
            moment(String.format("2023-01-01T%02d:00:00Z", n), n <= 23);
            moment(String.format("2023-01-01T00:%02d:00Z", n), n <= 59);
            moment(String.format("2023-01-01T00:00:%02dZ", n), n <= 59);
        }
    }

    private void charsOfMoments() {
        for (int i = 0; i < MOMENT.length(); i++) {
            for (char c : new char[] {'/', ':', ' ', 'x', '0', '-', 'T', 'Z', '.', '\u0661', '\u00b2'}) {
                String text = MOMENT.substring(0, i) + c + MOMENT.substring(i + 1);
                boolean digit = Character.isDigit(MOMENT.charAt(i));
                boolean same = c == MOMENT.charAt(i);
                // A 0 in place of a digit is right but for the month's second one (00 there) and the year's, which stays a leap year.
                boolean zero = digit && c == '0' && i != 6;
                if (i == 6 && c == '0') {
                    moment(text, false);
                } else {
                    moment(text, same || zero);
                }
            }
            moment(MOMENT.substring(0, i) + MOMENT.substring(i + 1), false);
            moment(MOMENT.substring(0, i) + "0" + MOMENT.substring(i), false);
        }
        for (String blank : new String[] {" ", "\t", "\n", "\r\n", " ".repeat(50), "&#9;&#10;&#13;&#32;", "<![CDATA[ ]]>"}) {
            moment(blank + MOMENT + blank, true);
        }
        moment("\u00a0" + MOMENT, false);
        moment(MOMENT + "\u00a0", false);
        moment(MOMENT + " " + MOMENT, false);
        moment(MOMENT + " ".repeat(60) + "x", false);
        moment("x" + " ".repeat(60) + MOMENT, false);
        moment(MOMENT + "x".repeat(60), false);
    }

    private void countsOfModified() {
        String one = "<meta property='dcterms:modified'>" + MOMENT + "</meta>";
        String at = "56 E/p.opf <metadata";
        pack(one, "").due(due, "none", at);
        pack(one, one + one).due(due, "two", at);
        pack(one, one + one + one).due(due, "three", at);
        pack(one, one + one.replace(MOMENT, "x")).due(due, "a second one that is wrong", at);
        pack(one, one.replace(MOMENT, "x") + one).due(due, "a first one that is wrong", at);
        pack(one, one.replace("'>", "' refines='#uid'>")).due(due, "only one with refines", at);
        pack(one, one + one.replace("'>", "' refines='#uid'>")).due(due, "one more with refines");
        pack(one, one + one.replace("'>", "' refines=''>")).due(due, "one more with an empty refines",
            "33 E/p.opf <meta property='dcterms:modified' refines");
        pack(one, one.replace("<meta", "<x:meta xmlns:x='u'").replace("</meta", "</x:meta")).due(due, "one of another namespace", at);
        pack(one, one + one.replace("<meta", "<x:meta xmlns:x='u'").replace("</meta", "</x:meta"))
            .due(due, "one more of another namespace");
        pack(one, "<x>" + one + "</x>").due(due, "one not in metadata itself", at);
        pack(one, one + "<x>" + one + "</x>").due(due, "one more not in metadata itself");
        pack(one, one.replace("dcterms:modified", "modified")).due(due, "another property", at, "35 E/p.opf <meta prop");
        pack(one, one.replace("dcterms:modified", "dcterms:Modified")).due(due, "a property in capitals", at);
    }

    private void prefix(String value, boolean right) {
        Book book = pack("version='3.0'", "version='3.0' prefix='" + value + "'");
        if (right) {
            book.due(due, "prefix [" + value + "]");
        } else {
            book.due(due, "prefix [" + value + "]", "23 E/p.opf <package");
        }
    }

    private void wordsOfPrefixes() {
        for (char c = 33; c < 128; c++) {
            if (c == '<' || c == '&' || c == '\'') {
                continue;
            }
            boolean letter = c >= 'A' && c <= 'Z' || c >= 'a' && c <= 'z' || c == '_';
            boolean inner = letter || c >= '0' && c <= '9' || c == '-' || c == '.';
            prefix(c + ": x", letter);
            prefix("a" + c + ": x", inner);
            prefix("a" + c + "b: x", inner);
            prefix("a: " + c, true);
        }
        for (String right : new String[] {"", " ", "\t\n\r ", "a: x", " a: x ", "a:\tx\nb:\ry", "a: x b: y c: z", "a: :", "a: b:",
            "a: \u00e9", "_: x", "a: x a: x", "A.-_9: x", "dcterms: x"}) {
            prefix(right, true);
        }
        for (String wrong : new String[] {"a", "a:", ":", ": x", "a x", "a :x", "a : x", "a:x", "a:x y", "a: x b", "a: x b:", "a: x b y",
            "a: x y b: z", "\u00e9: x", "a\u00e9: x", "a:: x", "a: x : y", "x a: y", "ab x", "ab", "a: x bc y", "a: x bc", "9a: x", "-: x",
                ".: x"}) {
            prefix(wrong, false);
        }
        pack("version='3.0'", "version='3.0' xml:prefix='x' xmlns:prefix='y'").due(due, "no prefix at all");
    }

    private void property(String prefix, String property, boolean known, boolean right) {
        Book book = pack("version='3.0'", "version='3.0' prefix='" + prefix + "'").meta("property='" + property + "'", "x");
        String at = "35 E/p.opf <meta property='" + property + "'";
        String root = "23 E/p.opf <package";
        if (known) {
            book.due(due, prefix + " for " + property, right ? new String[0] : new String[] {root});
        } else {
            book.due(due, prefix + " for " + property, right ? new String[] {at} : new String[] {root, at});
        }
    }

    private void propertiesWithPrefixes() {
        property("a: x", "a:b", true, true);
        property("a: x", "a:b:c", true, true);
        property("a: x", "a: ", true, true);
        property("a: x", "a:", false, true);
        property("a: x", "A:b", false, true);
        property("a: x", "b:a", false, true);
        property("a: x", "a", false, true);
        property("a: x", ":a", false, true);
        property("a: x", "x:a", false, true);
        property("a: x", " a:b", false, true);
        property("a: x b: y", "b:c", true, true);
        property("a: b: c: d", "b:c", false, true);
        property("a: x b", "a:c", true, false);
        property("a: x b", "b:c", false, false);
        property("a: x b:", "b:c", true, false);
        property("b:", "b:c", true, false);
        property("9: x b: y", "b:c", false, false);
        property("a: x 9: y b: z", "a:c", true, false);
        property("a: x 9: y b: z", "b:c", false, false);
        property("a x b: y", "b:c", false, false);
        property("", "a:b", false, true);
        property("role: x", "role", true, true);
        property("role: x", "role:y", true, true);
        property("x: y", "role", true, true);
        property("x: y", "role:", false, true);
    }

    private void metasThatAreNone() {
        pack("</metadata>", "<x><meta/></x></metadata>").due(due, "one deeper");
        pack("</metadata>", "<meta xmlns='u'/></metadata>").due(due, "one of another namespace");
        pack("</metadata>", "<Meta/></metadata>").due(due, "another name");
        pack("</metadata>", "<meta name=''/></metadata>").due(due, "one with an empty name");
        pack("</metadata>", "<meta name='x' property='x:' refines='x'/></metadata>").due(due, "one with a name and all that is wrong");
        pack("</metadata>", "<meta xml:name='x'/></metadata>").due(due, "a name of a namespace is none", "32 E/p.opf <meta xml");
        pack("<spine>", "<spine><meta/>").due(due, "one in the spine");
        pack("</metadata>", "<meta property='x:y' refines='z'/></metadata>")
            .due(due, "all at once", "32 E/p.opf <meta property='x", "33 E/p.opf <meta property='x", "35 E/p.opf <meta property='x");
        pack("</metadata>", "<meta property='' refines='#uid'>x</meta></metadata>")
            .due(due, "an empty property is 32 alone", "32 E/p.opf <meta property=''");
        pack("</metadata>", "<meta property=' '>x</meta></metadata>").due(due, "a blank one is 35 alone", "35 E/p.opf <meta property=' '");
    }

    private static String ring(String... pairs) {
        StringBuilder text = new StringBuilder();
        for (String pair : pairs) {
            text.append("<meta property='role' id='").append(pair.charAt(0)).append("' refines='#").append(pair.charAt(1)).append("'>x</meta>");
        }
        return text + "</metadata>";
    }

    private static String at(String id) {
        return "34 E/p.opf <meta property='role' id='" + id + "'";
    }

    private void ringsOfRefines() {
        pack("</metadata>", ring("aa")).due(due, "one", at("a"));
        pack("</metadata>", ring("ab", "ba")).due(due, "two", at("a"), at("b"));
        pack("</metadata>", ring("ab", "bc", "ca")).due(due, "three", at("a"), at("b"), at("c"));
        pack("</metadata>", ring("ab", "bc", "cb")).due(due, "one that leads to a ring", at("b"), at("c"));
        pack("</metadata>", ring("ab", "bb", "cb")).due(due, "two that lead to a ring", at("b"));
        pack("</metadata>", ring("ba", "cb", "dc")).swap(Book.PACK, "<dc:title>", "<dc:title id='a'>").due(due, "a chain with an end");
        pack("</metadata>", ring("ab", "bc", "cd")).due(due, "a chain to nothing", "33 E/p.opf <meta property='role' id='c'");
        pack("</metadata>", ring("ab", "ba").replace("id='b'", "name='x' id='b'")).due(due, "by one that is no meta");
        pack("</metadata>", ring("ab")).swap(Book.PACK, "<dc:title>", "<dc:title id='b' refines='#a'>").due(due, "by another element");
        pack("</metadata>", ring("ab", "bc", "ca").replace("property='role' id='b'", "property='' id='b'"))
            .due(due, "by one with 32", at("a"), "34 E/p.opf <meta property='' id='b'", at("c"), "32 E/p.opf <meta property='' id='b'");
        pack("</metadata>", ring("ab", "ac", "ba")).due(due, "the first with an id counts", at("a"), at("b"),
            "58 E/p.opf <meta property='role' id='a' refines='#c'", "33 E/p.opf <meta property='role' id='a' refines='#c'");
    }

    /** With 50 or 52 nothing else of the book is looked at but the encryption. */
    private void nothingElse() {
        for (String[] change : new String[][] {{"version='3.0'", "version='2'", "50"}, {"<spine>", "<x/><spine>", "52"}}) {
            Book book = pack(change[0], change[1]).swap(Book.PACK, "<dc:title>T</dc:title>", "").swap(Book.PACK, "id='page'", "id='nav'")
                .put("x", "").put(Book.PAGE, "<");
            book.put(Book.ENCRYPTION, "<x/>").swap(Book.PACK, "idref='nav'", "idref='q'")
                .due(due, "with " + change[2], change[2] + " E/p.opf <package", "80 META-INF/encryption.xml <");
        }
    }

    /** What is asked for may be the first or the last element in metadata. */
    private void firstAndLast() {
        String id = "<dc:identifier id='uid'>urn:x:1</dc:identifier>\n";
        String title = "<dc:title>T</dc:title>\n";
        String language = "<dc:language>en</dc:language>\n";
        String modified = "<meta property='dcterms:modified'>" + MOMENT + "</meta>\n";
        String[] all = {id, title, language, modified};
        for (int i = 0; i < 4; i++) {
            StringBuilder order = new StringBuilder();
            for (int k = 0; k < 4; k++) {
                order.append(all[(i + k) % 4]);
            }
            pack(id + title + language + modified, order.toString()).due(due, "order " + i);
            pack(id + title + language + modified, order.toString().replace("\n", "")).due(due, "order " + i + ", and nothing else");
        }
        String[] parts = {id, title, language};
        String[][] told = {{"51 E/p.opf <package", "55 E/p.opf <metadata"}, {"53 E/p.opf <metadata"}, {"54 E/p.opf <metadata"}};
        for (int i = 0; i < 3; i++) {
            String outside = parts[i].replace("<dc:", "<d:").replace("</dc:", "</d:").replaceFirst(">",
                " xmlns:d='http://purl.org/dc/elements/1.1/'>");
            pack(parts[i], "").swap(Book.PACK, "</metadata>", "</metadata>" + outside).due(due, "right behind metadata, " + i, told[i]);
            pack(parts[i], "").swap(Book.PACK, "<metadata", outside + "<metadata").due(due, "right ahead of metadata, " + i, told[i]);
        }
        pack(id, "<meta id='m' refines='#m' property='role'>x</meta>" + id).due(due, "a ring first", "34 E/p.opf <meta id");
        pack(id, "<meta property='media:duration'>x</meta>" + id).due(due, "a duration first", "37 E/p.opf <meta prop");
        pack("</metadata>", "<meta property='media:duration'>x</meta></metadata>")
            .due(due, "a duration last", "37 E/p.opf <meta property='media");
        pack("</metadata>", "<meta id='m' refines='#m' property='role'>x</meta></metadata>").due(due, "a ring last", "34 E/p.opf <meta id");
    }

    /** A value ends where it ends: what stands behind it in the document is no part of it. */
    private void endsOfValues() {
        for (String behind : new String[] {"", " x=' y'", " x='y'", " x=':'", "\n"}) {
            pack("unique-identifier='uid'", "unique-identifier='uid' prefix='a:'" + behind)
                .due(due, "a second word that is missing, ahead of [" + behind + "]", "23 E/p.opf <package");
            pack("unique-identifier='uid'", "unique-identifier='uid' prefix='a: x '" + behind).due(due, "a pair ahead of [" + behind + "]");
            pack("unique-identifier='uid'", "unique-identifier='uid' prefix=''" + behind).due(due, "no words ahead of [" + behind + "]");
        }
        pack("</metadata>", "<meta property='role' x='s'>x</meta></metadata>").due(due, "a property ahead of more");
        pack("</metadata>", "<meta property='rol' x='e'>x</meta></metadata>")
            .due(due, "a property that more would make right", "35 E/p.opf <meta property='rol'");
        pack("</metadata>", "<meta property='a11y:' x='e'>x</meta></metadata>")
            .due(due, "nothing behind the :", "35 E/p.opf <meta property='a11y:'");
        pack("</metadata>", "<meta property='role' refines='#ui' x='d'>x</meta></metadata>")
            .due(due, "an id that more would make right", "33 E/p.opf <meta property='role'");
        pack("</metadata>", "<meta property='role' refines='xuid'>x</meta></metadata>")
            .due(due, "another sign than #", "33 E/p.opf <meta property='role'");
        pack("<dc:title>T<", "<dc:title> <")
            .due(due, "a text ahead of another", "53 E/p.opf <metadata");
        pack("2024-02-29T23:59:59Z</meta>", "2024-02-29T23:59:59</meta>Z")
            .due(due, "a moment that more would make right", "56 E/p.opf <metadata");
    }
}
