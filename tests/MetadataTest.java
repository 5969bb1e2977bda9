/** The package's root and metadata: 50 to 58, 23, 32 to 35. */
public final class MetadataTest {
    private static final String MOMENT = "2024-02-29T23:59:59Z";

    private final Due due = new Due();

    public static void main(String[] args) {
        MetadataTest test = new MetadataTest();
        test.roots();
        test.identifiers();
        test.texts();
        test.moments();
        test.prefixes();
        test.metas();
        test.refines();
        test.due.close();
    }

    private Book pack(String from, String to) {
        return new Book().swap(Book.PACK, from, to);
    }

    private void roots() {
        String root = "<package";
        pack("version='3.0'", "version='3.1'").due(due, "version", "50 E/p.opf " + root);
        pack(" version='3.0'", "").due(due, "no version", "50 E/p.opf " + root);
        pack("http://www.idpf.org/2007/opf", "http://www.idpf.org/2007/OPF").due(due, "namespace", "50 E/p.opf " + root);
        new Book().put(Book.PACK, "<x/>").due(due, "another root", "50 E/p.opf <x");
        pack("<spine>", "<x/><spine>").due(due, "one more ahead", "52 E/p.opf " + root);
        pack("<spine>", "<x xmlns='u'/><spine>").due(due, "one of another namespace");
        pack("</spine>", "</spine><guide/><x/>").due(due, "more behind");
        pack("</spine>", "</spine><guide/><metadata/>").due(due, "metadata once more", "52 E/p.opf " + root);
        pack("</spine>", "</spine><manifest/>").due(due, "manifest once more", "52 E/p.opf " + root);
        pack("</spine>", "</spine><spine/>").due(due, "spine once more", "52 E/p.opf " + root);
        pack("</spine>", "<spine/></spine>").due(due, "a spine in the spine");
        pack("<metadata xml", "<manifest/><metadata xml").due(due, "manifest first", "52 E/p.opf " + root);
        new Book().put(Book.PACK, "<package xmlns='http://www.idpf.org/2007/opf' version='3.0'/>").due(due, "nothing", "52 E/p.opf " + root);
        new Book().put(Book.PACK, "<package xmlns='http://www.idpf.org/2007/opf' version='3.0'><metadata/><manifest/></package>")
            .due(due, "no spine", "52 E/p.opf " + root);
        new Book().put(Book.PACK, "<package xmlns='http://www.idpf.org/2007/opf' version='3.0'><metadata/><manifest/><spine/></package>")
            .due(due, "empty ones", "51 E/p.opf " + root, "53 E/p.opf <metadata", "54 E/p.opf <metadata", "55 E/p.opf <metadata",
                "56 E/p.opf <metadata", "64 E/p.opf <manifest", "68 E/p.opf <spine", "90 E/nav.xhtml", "90 E/t/page.xhtml", "90 E/i/pic.png");
    }

    private void identifiers() {
        pack(" unique-identifier='uid'", "").due(due, "no unique-identifier", "51 E/p.opf <package");
        pack("unique-identifier='uid'", "unique-identifier='ui'").due(due, "another id", "51 E/p.opf <package");
        pack("unique-identifier='uid'", "unique-identifier='page'").due(due, "the id of another element", "51 E/p.opf <package");
        pack("unique-identifier='uid'", "unique-identifier=''").swap(Book.PACK, "id='uid'", "id=''").due(due, "an empty id is one");
        pack("</metadata>", "<x><dc:identifier id='u2'>x</dc:identifier></x></metadata>").swap(Book.PACK, "unique-identifier='uid'", "unique-identifier='u2'")
            .due(due, "not in metadata itself", "51 E/p.opf <package");
        pack("<dc:identifier id='uid'>urn:x:1</dc:identifier>", "<identifier id='uid'>x</identifier>")
            .due(due, "of another namespace", "51 E/p.opf <package", "55 E/p.opf <metadata");
        pack("<dc:title>", "<dc:title id='uid'>").due(due, "an id again", "58 E/p.opf <dc:title");
        pack("<dc:title>", "<dc:title id=''>").swap(Book.PACK, "<dc:language>", "<dc:language id=''>").due(due, "an empty id again", "58 E/p.opf <dc:language");
        pack("<spine>", "<spine id='nav'>").swap(Book.PACK, "<itemref idref='nav'", "<itemref id='nav' idref='nav'")
            .due(due, "ids again", "58 E/p.opf <spine", "58 E/p.opf <itemref id");
        pack("<spine>", "<spine xmlns:q='u' q:id='nav'>").due(due, "an id of a namespace is none");
        pack("<dc:title>", "<x xmlns='u' id='z'/><dc:title id='z'>").due(due, "ids of elements of any namespace", "58 E/p.opf <dc:title");
    }

    private void texts() {
        pack("<dc:title>T<", "<dc:title> \n\t<").due(due, "a blank title", "53 E/p.opf <metadata");
        pack("<dc:title>T</dc:title>", "<dc:title><x>T</x></dc:title>").due(due, "a title's own text counts", "53 E/p.opf <metadata");
        pack("<dc:title>T</dc:title>", "<title>T</title><x><dc:title>T</dc:title></x>").due(due, "no title in it", "53 E/p.opf <metadata");
        pack("<dc:title>T</dc:title>", "<dc:title/><dc:title>&#160;</dc:title>").due(due, "one of two titles is enough");
        pack("<dc:title>T</dc:title>", "<dc:title><![CDATA[x]]></dc:title>").due(due, "a title of CDATA");
        pack("<dc:language>en</dc:language>", "").due(due, "no language", "54 E/p.opf <metadata");
        pack("urn:x:1", " ").due(due, "a blank identifier", "55 E/p.opf <metadata");
        pack("urn:x:1</dc:identifier>", " </dc:identifier><dc:identifier>x</dc:identifier>").due(due, "another identifier");
    }

    private void moments() {
        String[] right = {"2024-02-29T23:59:59Z", " \n2000-02-29T00:00:00Z\t", "0000-02-29T00:00:00Z", "0001-01-01T00:00:00Z", "9999-12-31T12:00:00Z",
            "2023-04-30T00:00:00Z", "2023-01-31T00:00:00Z", "2023-03-31T00:00:00Z", "2023-05-31T00:00:00Z", "2023-06-30T00:00:00Z",
            "2023-07-31T00:00:00Z", "2023-08-31T00:00:00Z", "2023-09-30T00:00:00Z", "2023-10-31T00:00:00Z", "2023-11-30T00:00:00Z", "<!-- c -->2023-02-28<x/>T00:00:00Z"};
        for (String text : right) {
            pack(MOMENT, text).due(due, "modified " + text);
        }
        String[] wrong = {"", "2023-02-29T00:00:00Z", "1900-02-29T00:00:00Z", "2024-02-30T00:00:00Z", "2023-04-31T00:00:00Z", "2023-06-31T00:00:00Z",
            "2023-09-31T00:00:00Z", "2023-11-31T00:00:00Z", "2023-12-32T00:00:00Z", "2023-13-01T00:00:00Z", "2023-00-01T00:00:00Z", "2023-01-00T00:00:00Z",
            "2023-01-01T24:00:00Z", "2023-01-01T00:60:00Z", "2023-01-01T00:00:60Z", "2023-01-01T00:00:00z", "2023-01-01 00:00:00Z", "2023-01-01T00:00:00",
            "2023-01-01T00:00:00ZZ", "023-01-01T00:00:00Z", "2023/01/01T00:00:00Z", "2023-1-01T00:00:00Z", "+023-01-01T00:00:00Z", "x"};
        for (String text : wrong) {
            Book book = pack(MOMENT, text);
            if (text.isEmpty()) {
                book.due(due, "modified " + text, "56 E/p.opf <metadata", "32 E/p.opf <meta prop");
            } else {
                book.due(due, "modified " + text, "56 E/p.opf <metadata");
            }
        }
        new Book().meta("property='dcterms:modified'", MOMENT).due(due, "modified twice", "56 E/p.opf <metadata");
        new Book().meta("property='dcterms:modified' refines='#uid'", "x").due(due, "modified of something");
        new Book().meta("property='dcterms:modified' name='x'", MOMENT).due(due, "modified with a name", "56 E/p.opf <metadata");
        pack("'dcterms:modified'", "'dcterms:modified '").due(due, "a property beside", "56 E/p.opf <metadata");
    }

    private void prefixes() {
        String[] right = {"", " \n", "a: x", "A: x", "z: x", "Z: x", "_: x", "a0A9Zz: x", "a: x b: y", "\t_a.-9: x\n", "a: a:", "a: x a: y"};
        for (String text : right) {
            pack("version='3.0'", "version='3.0' prefix='" + text + "'").due(due, "prefix " + text);
        }
        String[] wrong = {"a", "a:", "a: x b", "a: x b:", "a x", ": x", "1a: x", "@: x", "[: x", "`: x", "{: x", "a@: x", "a[: x", "a/: x", "a;: x", "-a: x", ".a: x", "a:b x", "a:: x", "\u00e9: x", "a+: x"};
        for (String text : wrong) {
            pack("version='3.0'", "version='3.0' prefix='" + text + "'").due(due, "prefix " + text, "23 E/p.opf <package");
        }
        String prefix = "version='3.0' prefix='a: x b: y 1: z c: w'";
        pack("version='3.0'", prefix).meta("property='a:q'", "x").meta("property='b:q'", "x").due(due, "prefixes ahead of what is wrong", "23 E/p.opf <package");
        pack("version='3.0'", prefix).meta("property='c:q'", "x").due(due, "prefixes behind it", "23 E/p.opf <package", "35 E/p.opf <meta property='c");
        pack("version='3.0'", "version='3.0' prefix='a: x b:'").meta("property='b:q'", "x").due(due, "one whose second word is missing", "23 E/p.opf <package");
        pack("version='3.0'", "version='3.0' prefix='ab: x'").meta("property='a:q'", "x").meta("property='abc:q'", "x")
            .due(due, "prefixes nearly the same", "35 E/p.opf <meta property='a:", "35 E/p.opf <meta property='abc");
        pack("version='3.0'", "version='3.0' prefix='x: ab:'").meta("property='ab:q'", "x").due(due, "a second word is no prefix", "35 E/p.opf <meta property='ab:");
    }

    private void metas() {
        String at = "E/p.opf <meta property='dcterms:mod>><meta ";
        new Book().meta("x='y'", "x").due(due, "no property", "32 " + at);
        new Book().meta("property=''", "x").due(due, "an empty property", "32 " + at);
        new Book().meta("property='role'", "").due(due, "no text", "32 " + at);
        new Book().meta("property='role'", " &#9;\n").due(due, "blank text", "32 " + at);
        new Book().meta("property='role'", "<x>y</x>").due(due, "text in another", "32 " + at);
        pack("<dc:identifier", "<meta/><dc:identifier").due(due, "the first element", "32 E/p.opf <meta/");
        new Book().meta("name='n' x='y'", "").due(due, "one with a name");
        new Book().swap(Book.PACK, "</manifest>", "<meta/></manifest>").due(due, "one in the manifest");
        for (String word : "alternate-script authority belongs-to-collection collection-type display-seq file-as group-position identifier-type meta-auth role source-of term title-type a11y:x dcterms:x marc:x media:x onix:x rendition:x schema:x xsd:x a11y:b:c".split(" ")) {
            new Book().meta("property='" + word + "'", "x").due(due, "property " + word);
        }
        for (String word : new String[] {"Role", "rol", "roles", "role ", " role", "x:y", ":x", ":", "a11y:", "role:x", "xsd:", "role term", " ", "dcterms"}) {
            new Book().meta("property='" + word + "'", "x").due(due, "property " + word, "35 " + at);
        }
    }

    private void refines() {
        String at = "E/p.opf <meta property='dcterms:mod>><meta ";
        new Book().meta("property='role' refines='#uid'", "x").due(due, "refines");
        pack("version='3.0'", "version='3.0' id='r'").meta("property='role' refines='#r'", "x").due(due, "refines the root");
        pack("version='3.0'", "version='3.0' id='page'").due(due, "the root's id again", "58 E/p.opf <item id='page'");
        new Book().meta("property='role' refines='uid'", "x").due(due, "refines without #", "33 " + at);
        new Book().meta("property='role' refines='#u'", "x").due(due, "refines of none", "33 " + at);
        new Book().meta("property='role' refines=''", "x").due(due, "empty refines", "33 " + at);
        new Book().meta("property='role' refines='#'", "x").due(due, "refines of #", "33 " + at);
        new Book().meta("property='role' refines='#' id=''", "x").due(due, "refines of an empty id: itself", "34 " + at);
        new Book().meta("property='role' refines='#a' id='a'", "x").due(due, "refines itself", "34 " + at);
        new Book().meta("property='role' refines='#page'", "x").due(due, "refines an item");
        Book ring = new Book().meta("property='role' refines='#b' id='a'", "x").meta("property='role' refines='#a' id='b'", "x")
            .meta("property='role' refines='#a' id='c'", "x");
        ring.due(due, "a ring of two, and one that leads to it", "34 E/p.opf <meta property='role' refines='#b'", "34 E/p.opf <meta property='role' refines='#a' id='b'");
        ring = new Book().meta("property='role' refines='#b' id='a'", "x").meta("name='n' refines='#a' id='b'", "x");
        ring.due(due, "one with a name leads nowhere");
        ring = new Book().swap(Book.PACK, "<dc:title>", "<dc:title id='a'>").meta("property='role' refines='#a' id='a'", "x");
        ring.due(due, "the first with an id counts", "58 " + at);
    }
}
