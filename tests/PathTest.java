/** Paths: what is bad, and which entry a value tells. */
public final class PathTest {
    private final Due due = new Due();

    public static void main(String[] args) {
        PathTest test = new PathTest();
        test.fromNone();
        test.fromPackage();
        test.missing();
        test.oddNames();
        test.due.close();
    }

    private static String value(String path) {
        return path.replace("&", "&amp;").replace("<", "&lt;").replace("'", "&apos;");
    }

    /** The entry that a rootfile's full-path tells, among these names. */
    private void full(String path, String want, String... names) {
        Zip zip = new Zip();
        zip.stored("mimetype", Zip.latin("application/epub+zip"));
        zip.stored(Book.CONTAINER, Zip.utf8(new Book().files.get(Book.CONTAINER).replace("E/p.opf", value(path))));
        for (String name : names) {
            zip.stored(name, Zip.utf8("<x/>"));
        }
        Desk desk = new Desk();
        desk.check(zip.bytes());
        int found = desk.about(2);
        due.is("full-path " + path, found < 0 ? "-" : desk.name(found), want);
        due.is("full-path " + path + " is told", desk.report().contains("42@1:3:1") ? 1 : 0, found < 0 ? 1 : 0);
    }

    private void fromNone() {
        full("a", "a", "a");
        full("a/b", "a/b", "a/b");
        full("./a", "a", "a");
        full("a/.", "a", "a");
        full("a/", "a", "a");
        full("b/../a", "a", "a");
        full("b/c/../../a", "a", "a");
        full("../a", "-", "a");
        full("b/../../a", "-", "a");
        full("", "-", "a");
        full(".", "-", "a");
        full("./", "-", "a");
        full("a/..", "-", "a");
        full("/a", "-", "a");
        full("a//b", "a//b", "a//b", "a/b");
        full("a//b", "-", "a/b");
        full(".//b", "/b", "/b");
        full(".//x/../b", "/b", "/b");
        full(".//../b", "b", "b", "/b");
        full("a/b/../c", "a/c", "a/c");
        full("a//../b", "a/b", "a/b");
        full("a?", "-", "a");
        full("a#x?", "-", "a");
        full("a#x", "a", "a");
        full("a#", "a", "a");
        full("a#/../..", "a", "a");
        full("a##", "a", "a");
        full("a#%", "-", "a");
        full("a# ", "-", "a");
        full("#", Book.CONTAINER, "a");
        full("#a", Book.CONTAINER, "a");
        full("%61", "a", "a");
        full("%C3%A9", "\u00e9", "\u00e9");
        full("\u00e9", "\u00e9", "\u00e9");
        full("%2e/a", "a", "a");
        full("b/%2E%2e/a", "a", "a");
        full("a%2Fb", "-", "a/b");
        full("a%2fb/../a", "-", "a");
        full("%", "-", "%");
        full("%4", "-", "a");
        full("%4g", "-", "a");
        full("%g4", "-", "a");
        full("a%", "-", "a");
        full("%25", "%", "%");
        full("%23", "#", "#");
        full("%3F", "?", "?");
        full("a b", "-", "a b");
        full("a%20b", "a b", "a b");
        full("a\u007f", "-", "a");
        full("a:b", "-", "a:b");
        full("./a:b", "a:b", "a:b");
        full("a/b:c", "a/b:c", "a/b:c");
        full("a%3Ab", "a:b", "a:b");
        full("a#b:c", "a", "a");
        full("A", "-", "a");
        full("..a", "..a", "..a");
        full("a/...", "a/...", "a/...");
        full("%2561", "%61", "%61", "a");
    }

    /** An item's href is told from the package's own folder on. */
    private void fromPackage() {
        item("x", "E/x", true);
        item("../E/x", "E/x", true);
        item("../x", "x", true);
        item("../../x", "x", false);
        item("t/../x", "E/x", true);
        item("x/", "E/x", true);
        item(".", "E", true);
        item("..", "x", false);
        item("#", "x", false);
        item("x#a", "E/x", false);
        item("p.opf", "x", false);
        item("../E/p.opf", "x", false);
        item("%78", "E/x", true);
        item("http://x/x", "x", false);
        item("%g4", "x", false);
        item("%4g", "x", false);
        item("x%", "x", false);
        item("x%4", "x", false);
        item("!x", "E/!x", true);
    }

    /** Whether an item's path is that of the entry, which isn't told as a stray then; else the item is told as 59. */
    private void item(String href, String name, boolean found) {
        Book book = new Book().item("id='z' href='" + href + "' media-type='text/css'").put(name, "x");
        if (found) {
            book.due(due, "href " + href);
        } else {
            book.due(due, "href " + href, "59 E/p.opf <item id='z'", "90 " + name);
        }
    }

    private void missing() {
        new Book().item("id='z' href='z' media-type='text/css'").due(due, "a missing item", "60 E/p.opf <item id='z'");
        new Book().item("id='y' href='z' media-type='text/css'").item("id='z' href='t/../z' media-type='text/css'")
            .due(due, "missing twice", "60 E/p.opf <item id='y'", "60 E/p.opf <item id='z'", "61 E/p.opf <item id='z'");
        new Book().item("id='y' href='z' media-type='text/css'").item("id='z' href='zz' media-type='text/css'")
            .due(due, "two missing ones", "60 E/p.opf <item id='y'", "60 E/p.opf <item id='z'");
        new Book().item("id='y' href='../a' media-type='text/css'").item("id='z' href='../b' media-type='text/css'")
            .due(due, "two missing ones of one length", "60 E/p.opf <item id='y'", "60 E/p.opf <item id='z'");
        new Book().item("id='x' href='../a' media-type='text/css'").item("id='y' href='..' media-type='text/css'").item("id='z' href='../a' media-type='text/css'")
            .due(due, "one amid that is bad", "60 E/p.opf <item id='x'", "59 E/p.opf <item id='y'", "60 E/p.opf <item id='z'", "61 E/p.opf <item id='z'");
        new Book().item("id='y' href='nav.xhtml' media-type='text/css'")
            .due(due, "there twice", "61 E/p.opf <item id='y'");
        new Book().item("id='y' href='/' media-type='text/css'").item("id='z' href='/' media-type='text/css'")
            .due(due, "bad twice", "59 E/p.opf <item id='y'", "59 E/p.opf <item id='z'");
    }

    /** Entries whose own names are wrong have paths told from them all the same. */
    private void oddNames() {
        Book book = new Book();
        String pack = book.files.get(Book.PACK);
        book.drop(Book.PACK).drop(Book.NAV).drop(Book.PAGE).drop(Book.PICTURE).swap(Book.CONTAINER, "E/p.opf", ".//p.opf");
        book.put("/p.opf", pack).put("/nav.xhtml", new Book().files.get(Book.NAV)).put("/t/page.xhtml", "<html xmlns='http://www.w3.org/1999/xhtml'/>");
        book.put("/i/pic.png", "x");
        book.due(due, "names that begin with /", "10 /p.opf", "10 /nav.xhtml", "10 /t/page.xhtml", "10 /i/pic.png");
    }
}
