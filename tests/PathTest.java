/** Paths: what is bad, and which entry a value tells. */
public final class PathTest {
    private final Due due = new Due();

    public static void main(String[] args) {
        PathTest test = new PathTest();
        test.fromNone();
        test.fromPackage();
        test.missing();
        test.oddNames();
        test.badChars();
        test.percents();
        test.parts();
        test.nothingLeft();
        test.behindTheSign();
        test.fromPages();
        test.ownNames();
        test.firstOfTheName();
        test.due.close();
    }

    private static String value(String path) {
        return path.replace("&", "&amp;").replace("<", "&lt;").replace("'", "&apos;");
    }

    /** The entry that a rootfile's full-path tells, among these names. */
    private void full(String path, String want, String... names) {
        Zip zip = new Zip();
        zip.stored("mimetype", Zip.latin("application/epub+zip"));
        zip.stored(Book.CONTAINER, Zip.utf8(new Book().files.get(Book.CONTAINER).replace("E/p.opf", value(path))));
        for (String name : names) {
            zip.stored(name, Zip.utf8("<x/>"));
        }
        Desk desk = new Desk();
        desk.check(zip.bytes());
        int found = desk.about(2);
        due.is("full-path " + path, found < 0 ? "-" : desk.name(found), want);
        due.is("full-path " + path + " is told", desk.report().contains("42@1:3:1") ? 1 : 0, found < 0 ? 1 : 0);
    }

    private void fromNone() {
        full("a", "a", "a");
        full("a/b", "a/b", "a/b");
        full("./a", "a", "a");
        full("a/.", "a", "a");
        full("a/", "a", "a");
        full("b/../a", "a", "a");
        full("b/c/../../a", "a", "a");
        full("../a", "-", "a");
        full("b/../../a", "-", "a");
        full("", "-", "a");
        full(".", "-", "a");
        full("./", "-", "a");
        full("a/..", "-", "a");
        full("/a", "-", "a");
        full("a//b", "a//b", "a//b", "a/b");
        full("a//b", "-", "a/b");
        full(".//b", "/b", "/b");
        full(".//x/../b", "/b", "/b");
        full(".//../b", "b", "b", "/b");
        full("a/b/../c", "a/c", "a/c");
        full("a//../b", "a/b", "a/b");
        full("a?", "-", "a");
        full("a#x?", "-", "a");
        full("a#x", "a", "a");
        full("a#", "a", "a");
        full("a#/../..", "a", "a");
        full("a##", "a", "a");
        full("a#%", "-", "a");
        full("a# ", "-", "a");
        full("#", Book.CONTAINER, "a");
        full("#a", Book.CONTAINER, "a");
        full("%61", "a", "a");
        full("%C3%A9", "\u00e9", "\u00e9");
        full("\u00e9", "\u00e9", "\u00e9");
        full("%2e/a", "a", "a");
        full("b/%2E%2e/a", "a", "a");
        full("a%2Fb", "-", "a/b");
        full("a%2fb/../a", "-", "a");
        full("%", "-", "%");
        full("%4", "-", "a");
        full("%4g", "-", "a");
        full("%g4", "-", "a");
        full("a%", "-", "a");
        full("%25", "%", "%");
        full("%23", "#", "#");
        full("%3F", "?", "?");
        full("a b", "-", "a b");
        full("a%20b", "a b", "a b");
        full("a\u007f", "-", "a");
        full("a:b", "-", "a:b");
        full("./a:b", "a:b", "a:b");
        full("a/b:c", "a/b:c", "a/b:c");
        full("a%3Ab", "a:b", "a:b");
        full("a#b:c", "a", "a");
        full("A", "-", "a");
        full("..a", "..a", "..a");
        full("a/...", "a/...", "a/...");
        full("%2561", "%61", "%61", "a");
    }

    /** An item's href is told from the package's own folder on. */
    private void fromPackage() {
        item("x", "E/x", true);
        item("../E/x", "E/x", true);
        item("../x", "x", true);
        item("../../x", "x", false);
        item("t/../x", "E/x", true);
        item("x/", "E/x", true);
        item(".", "E", true);
        item("..", "x", false);
        item("#", "x", false);
        item("x#a", "E/x", false);
        item("p.opf", "x", false);
        item("../E/p.opf", "x", false);
        item("%78", "E/x", true);
        item("http://x/x", "x", false);
        item("%g4", "x", false);
        item("%4g", "x", false);
        item("x%", "x", false);
        item("x%4", "x", false);
        item("!x", "E/!x", true);
    }

    /** Whether an item's path is that of the entry, which isn't told as a stray then; else the item is told as 59. */
    private void item(String href, String name, boolean found) {
        Book book = new Book().item("id='z' href='" + href + "' media-type='text/css'").put(name, "x");
        if (found) {
            book.due(due, "href " + href);
        } else {
            book.due(due, "href " + href, "59 E/p.opf <item id='z'", "90 " + name);
        }
    }

    private void missing() {
        new Book().item("id='z' href='z' media-type='text/css'").due(due, "a missing item", "60 E/p.opf <item id='z'");
        new Book().item("id='y' href='z' media-type='text/css'").item("id='z' href='t/../z' media-type='text/css'")
            .due(due, "missing twice", "60 E/p.opf <item id='y'", "60 E/p.opf <item id='z'", "61 E/p.opf <item id='z'");
        new Book().item("id='y' href='z' media-type='text/css'").item("id='z' href='zz' media-type='text/css'")
            .due(due, "two missing ones", "60 E/p.opf <item id='y'", "60 E/p.opf <item id='z'");
        new Book().item("id='y' href='../a' media-type='text/css'").item("id='z' href='../b' media-type='text/css'")
            .due(due, "two missing ones of one length", "60 E/p.opf <item id='y'", "60 E/p.opf <item id='z'");
        new Book().item("id='x' href='../a' media-type='text/css'").item("id='y' href='..' media-type='text/css'")
            .item("id='z' href='../a' media-type='text/css'")
            .due(due, "one amid that is bad", "60 E/p.opf <item id='x'", "59 E/p.opf <item id='y'", "60 E/p.opf <item id='z'",
                "61 E/p.opf <item id='z'");
        new Book().item("id='y' href='nav.xhtml' media-type='text/css'")
            .due(due, "there twice", "61 E/p.opf <item id='y'");
        new Book().item("id='y' href='/' media-type='text/css'").item("id='z' href='/' media-type='text/css'")
            .due(due, "bad twice", "59 E/p.opf <item id='y'", "59 E/p.opf <item id='z'");
    }

    /** Entries whose own names are wrong have paths told from them all the same. */
    private void oddNames() {
        Book book = new Book();
        String pack = book.files.get(Book.PACK);
        book.drop(Book.PACK).drop(Book.NAV).drop(Book.PAGE).drop(Book.PICTURE).swap(Book.CONTAINER, "E/p.opf", ".//p.opf");
        book.put("/p.opf", pack).put("/nav.xhtml", new Book().files.get(Book.NAV)).put("/t/page.xhtml",
            "<html xmlns='http://www.w3.org/1999/xhtml'/>");
        book.put("/i/pic.png", "x");
        book.due(due, "names that begin with /", "10 /p.opf", "10 /nav.xhtml", "10 /t/page.xhtml", "10 /i/pic.png");
    }

    /** Each char of a value: bad are those below 33, 127 and ? , at any place, also behind a # . */
    private void badChars() {
        for (char c = 9; c < 161; c++) {
            if (c < 32 && c != 9 && c != 10 && c != 13) {
                continue;
            }
            boolean bad = c < 33 || c == 127 || c == '?' || c == '%';
            String sign = c < 33 ? "&#" + (int) c + ";" : String.valueOf(c);
            if (c == '#' || c == '/' || c == ':') {
                continue;
            }
            told("a" + sign, bad ? null : "a" + c);
            told("./" + sign + "a", bad ? null : c + "a");
            told("a#" + sign, bad ? null : "a");
            told("a#x/" + sign + "y", bad ? null : "a");
        }
        told("\u0080", "\u0080");
        told("\ud83d\ude00", "\ud83d\ude00");
        told("a:b", null);
        told(":", null);
        told(":a", null);
        told("a:/b", null);
        told("a/:b", "a/:b");
        told("./a:b", "a:b");
        told("a#b:c", "a");
        told("%3a:b", null);
        told("%3ab", ":b");
        told("a?:b", null);
        told("?a", null);
        told("a/?", null);
        told("a/b?c", null);
        told("#?", null);
        told("", null);
        told("/", null);
        told("//a", null);
        told("/#", null);
    }

    /** Which name the full-path tells, as it stands in the document: null for one that is bad. */
    private void told(String path, String name) {
        Zip zip = new Zip();
        zip.stored("mimetype", Zip.latin("application/epub+zip"));
        zip.stored(Book.CONTAINER, Zip.utf8(new Book().files.get(Book.CONTAINER).replace("'E/p.opf'", path.contains("'") ? "\""
            + escaped(path) + "\"" : "'" + escaped(path) + "'")));
        zip.add(name == null ? Zip.latin("none") : Zip.utf8(name), Zip.latin("<x/>"), Zip.latin("<x/>"), 0);
        Desk desk = new Desk();
        desk.check(zip.bytes());
        due.is("the path of " + path, desk.about(2), name == null ? EpubDesk.NONE : 2);
    }

    private static String escaped(String path) {
        return path.replaceAll("&(?!#\\d+;)", "&amp;").replace("<", "&lt;");
    }

    private void percents() {
        for (String bad : new String[] {"%", "%6", "a%", "a%6", "%g1", "%1g", "%/1", "%1/", "%%61", "%6%1", "% 61", "%+1", "%-1", "%1#",
            "%#11", "%:1", "%@1", "%`1", "%G1", "%0x", "a#%", "a#%6", "a#%6g", "a%zz/../b"}) {
            told(bad, null);
        }
        told("%61%62", "ab");
        told("%4a%4A%4f%4F", "JJOO");
        told("%2561", "%61");
        told("%25", "%");
        told("%23a", "#a");
        told("%3Fa", "?a");
        told("a%20b", "a b");
        told("%7F", "\u007f");
        told("%0a", "\n");
        told("%c3%a9", "\u00e9");
        told("%f0%9F%98%80", "\ud83d\ude00");
        told("a#%61", "a");
        told("a#%2F", "a");
        for (String slash : new String[] {"%2F", "%2f", "a%2Fb", "a/b%2fc", "%2f/../a", "a%2Fb/../../a", ".%2F"}) {
            told(slash, null);
        }
        Zip zip = new Zip();
        zip.stored("mimetype", Zip.latin("application/epub+zip"));
        zip.stored(Book.CONTAINER, Zip.utf8(new Book().files.get(Book.CONTAINER).replace("E/p.opf", "%ff%00%C3")));
        zip.add(new byte[] {-1, 0, (byte) 0xC3}, Zip.latin("<x/>"), Zip.latin("<x/>"), 0);
        Desk desk = new Desk();
        desk.check(zip.bytes());
        due.is("bytes that are no UTF-8", desk.about(2), 2);
    }

    private void parts() {
        told("a/b", "a/b");
        told("a/./b", "a/b");
        told("a/././b/.", "a/b");
        told("././a", "a");
        told("a/../b", "b");
        told("a/b/../c", "a/c");
        told("a/b/../../c", "c");
        told("a/b/c/../../d", "a/d");
        told("a/b/..", "a");
        told("a/b/../", "a");
        told("a/", "a");
        told("a/./", "a");
        told("a//", "a/");
        told("a//b", "a//b");
        told("a///b", "a///b");
        told("a//../b", "a/b");
        told("a//../../b", "b");
        told("...", "...");
        told("..a/b", "..a/b");
        told("a../b", "a../b");
        told(".a", ".a");
        told("%2e/a", "a");
        told("a/%2e", "a");
        told("a/%2e%2E/b", "b");
        told("a/.%2e/b", "b");
        told("a/%2e%2e%2e/b", "a/.../b");
        told("..", null);
        told("../a", null);
        told("a/../../b", null);
        told("a/../..", null);
        told("./../a", null);
        told("%2e%2e/a", null);
        told("../../a/b/c", null);
    }

    /** Nothing is left in all, though parts were there. */
    private void nothingLeft() {
        told(".", null);
        told("./", null);
        told("./.", null);
        told("././", null);
        told("a/..", null);
        told("a/../", null);
        told("a/../.", null);
        told("a/b/../..", null);
        told("%2e", null);
        told(".#a", null);
    }

    private void behindTheSign() {
        told("a#", "a");
        told("a#b", "a");
        told("a#b#c", "a");
        told("a##", "a");
        told("a/b#../..", "a/b");
        told("a#/b", "a");
        told("a/#b", "a");
        told("a/..#b", null);
        told("#", Book.CONTAINER, 1);
        told("#a", Book.CONTAINER, 1);
        told("##", Book.CONTAINER, 1);
        told("#../..", Book.CONTAINER, 1);
    }

    private void told(String path, String name, int entry) {
        Zip zip = new Zip();
        zip.stored("mimetype", Zip.latin("application/epub+zip"));
        zip.stored(name, Zip.utf8(new Book().files.get(Book.CONTAINER).replace("E/p.opf", path)));
        Desk desk = new Desk();
        desk.check(zip.bytes());
        due.is("the path of " + path, desk.about(2), entry);
    }

    /** A page of E/t: values there are told from E/t on. */
    private void fromPages() {
        for (String right : new String[] {"../i/pic.png", "../../E/i/pic.png", "./../i/pic.png", "x/../../i/pic.png", "../i/pic.png#x",
            "../i/%70ic.png", "../i/x/../pic.png", "../i/pic.png/", "../i/pic.png/."}) {
            new Book().swap(Book.PAGE, "../i/pic.png", right).due(due, "src " + right);
        }
        for (String wrong : new String[] {"i/pic.png", "../../i/pic.png", "../../../E/i/pic.png", "../../../../E/i/pic.png", "/E/i/pic.png",
            "../i/pic.png?", "../i%2Fpic.png", "../i//pic.png", "../I/pic.png", ".", "..", "../..", "../../..", "", "http:../i/pic.png"}) {
            new Book().swap(Book.PAGE, "../i/pic.png", wrong).due(due, "src " + wrong, "76 E/t/page.xhtml <img");
        }
    }

    /** With nothing ahead of a # the path is the entry's own name. */
    private void ownNames() {
        new Book().swap(Book.PAGE, "../i/pic.png", "#").due(due, "a page as its own picture", "46 E/t/page.xhtml <img");
        new Book().swap(Book.PAGE, "../nav.xhtml", "#x").due(due, "a link into the page itself");
        new Book().swap(Book.PAGE, "../nav.xhtml", "#x?").due(due, "one that is bad behind the sign", "77 E/t/page.xhtml <a");
        new Book().swap(Book.PAGE, "../nav.xhtml", "#%").due(due, "one that is bad behind the sign", "77 E/t/page.xhtml <a");
        new Book().item("id='o' href='o' media-type='application/smil+xml'").put("E/o",
            "<smil xmlns='http://www.w3.org/ns/SMIL' version='3.0'><body><par><text src='#'/></par></body></smil>")
            .due(due, "an overlay's own");
        // The container as the package: it is none, but its own name is found.
        new Book().swap(Book.CONTAINER, "E/p.opf", "#").due(due, "the container as the package", "50 META-INF/container.xml <");
        // As an item it has its paths told from none on, too.
        Book page = new Book().item("id='c' href='../META-INF/container.xml' media-type='application/xhtml+xml'");
        page.swap(Book.CONTAINER, "</container>", "<img xmlns='http://www.w3.org/1999/xhtml' src='E/i/pic.png'/></container>");
        page.due(due, "the container as a page", "75 META-INF/container.xml <");
    }

    private void firstOfTheName() {
        Zip zip = new Book().zip();
        zip.stored(Book.PICTURE, Zip.latin("second"));
        zip.stored(Book.PAGE, Zip.latin("<second"));
        Desk desk = new Desk();
        due.is("second entries of a name aren't found", desk.report(zip.bytes()), "11@6:0:0 11@7:0:0");
        due.is("the order has the first", desk.order(1), 4);
        zip = new Book().zip();
        zip.entries.add(3, new Zip().stored(Book.PAGE, Zip.latin("<first>")));
        due.is("first entries are", desk.report(zip.bytes()), "30@3:1:8 11@5:0:0");
        due.is("the order has this one", desk.order(1), 3);
    }
}
