/** Pages: 75 to 77, 46; what is read at all. */
public final class ContentTest {
    private static final String HTML = "<html xmlns='http://www.w3.org/1999/xhtml'>";

    private final Due due = new Due();

    public static void main(String[] args) {
        ContentTest test = new ContentTest();
        test.roots();
        test.images();
        test.links();
        test.whatIsRead();
        test.rootsBeside();
        test.pictures();
        test.fallbacksOfPictures();
        test.linksBeside();
        test.pathsOfNoItem();
        test.lookedAtOnce();
        test.due.close();
    }

    private Book page(String inside) {
        return new Book().put(Book.PAGE, HTML + "\n" + inside + "</html>");
    }

    private void roots() {
        new Book().put(Book.PAGE, "<html/>").due(due, "no namespace", "75 E/t/page.xhtml <");
        new Book().put(Book.PAGE, "<x xmlns='http://www.w3.org/1999/xhtml'/>").due(due, "another root", "75 E/t/page.xhtml <");
        new Book().put(Book.PAGE, "<x><img xmlns='http://www.w3.org/1999/xhtml'/></x>")
            .due(due, "it is looked at all the same", "75 E/t/page.xhtml <x", "76 E/t/page.xhtml <img");
        new Book().put(Book.PAGE, "<h:html xmlns:h='http://www.w3.org/1999/xhtml'><h:img/></h:html>")
            .due(due, "a prefix", "76 E/t/page.xhtml <h:img");
        new Book().put(Book.PAGE, "<img xmlns='http://www.w3.org/1999/xhtml'/>")
            .due(due, "the root itself", "75 E/t/page.xhtml <", "76 E/t/page.xhtml <");
    }

    private void images() {
        page("<img/>").due(due, "no src", "76 E/t/page.xhtml <img");
        page("<img src=''/>").due(due, "an empty src", "76 E/t/page.xhtml <img");
        page("<img src='http://x/y'/>").due(due, "a far src", "76 E/t/page.xhtml <img");
        page("<img src='pic.png'/>").due(due, "a missing one", "76 E/t/page.xhtml <img");
        page("<img src='../p.opf'/>").due(due, "no item's", "76 E/t/page.xhtml <img");
        page("<img src='../i/pic.png#x'/><p><img src='../../E/i/pic.png'/></p>").due(due, "right ones");
        page("<img src='../../mimetype'/><a href='../../mimetype'/>").item("id='m' href='../mimetype' media-type='image/gif'")
            .due(due, "the first entry");
        page("<img src='../nav.xhtml'/>").due(due, "a page", "46 E/t/page.xhtml <img");
        page("<img xmlns='u'/><x:img xmlns:x='u'/>").due(due, "of other namespaces");
        page("<img xmlns:q='u' q:src='../i/pic.png'/>").due(due, "a src of a namespace", "76 E/t/page.xhtml <img");
        for (String type : "image/gif image/jpeg image/png image/svg+xml image/webp".split(" ")) {
            new Book().swap(Book.PACK, "image/png", type).due(due, "a picture of " + type);
        }
        for (String type : new String[] {"image/bmp", "image/PNG", "image", "image/png ", "text/css", "image/gif image/jpeg"}) {
            new Book().swap(Book.PACK, "image/png", type).due(due, "a picture of " + type, "46 E/t/page.xhtml <img");
        }
        new Book().swap(Book.PACK, "image/png'", "image/bmp' fallback='z'").item("id='z' href='z' media-type='x/y' fallback='w'").put("E/z",
            "")
            .item("id='w' href='w' media-type='image/gif'").put("E/w", "").due(due, "a picture with fallbacks");
        new Book().swap(Book.PACK, "image/png'", "image/bmp' fallback='pic'")
            .due(due, "a picture in a ring", "63 E/p.opf <item id='pic'", "46 E/t/page.xhtml <img");
        new Book().item("id='z' href='i/pic.png' media-type='image/bmp'").due(due, "the first item counts", "61 E/p.opf <item id='z'");
        new Book().swap(Book.PACK, "href='i/pic.png'", "href='i/pic.png#'")
            .due(due, "an item without a path", "59 E/p.opf <item id='pic'", "76 E/t/page.xhtml <img", "90 E/i/pic.png");
        page("<img src='../i/pic.png'/><img/><img/>").due(due, "each is told", "76 E/t/page.xhtml <img/", "76 E/t/page.xhtml <img/>><img/");
    }

    private void links() {
        page("<a/><a name='x'/>").due(due, "no href");
        page("<a href='http://x'/><a href='mailto:x'/><a href=':'/>").due(due, "far ones");
        page("<a href='#x'/><a href='page.xhtml#x'/><a href='../i/pic.png'/>").due(due, "right ones");
        page("<a href=''/>").due(due, "an empty one", "77 E/t/page.xhtml <a ");
        page("<a href='?a:b'/>").due(due, "a question", "77 E/t/page.xhtml <a ");
        page("<a href='x/a:b'/>").due(due, "a : behind a /", "77 E/t/page.xhtml <a ");
        page("<a href='/a'/>").due(due, "from the top", "77 E/t/page.xhtml <a ");
        page("<a href='q'/>").due(due, "a missing one", "77 E/t/page.xhtml <a ");
        page("<a href='../p.opf'/>").due(due, "no item's", "77 E/t/page.xhtml <a ");
        page("<a xmlns='u' href='q'/><b href='q'/>").due(due, "no a");
        page("<a xmlns:q='u' q:href='q'/>").due(due, "an href of a namespace");
        page("<a href=' page.xhtml'/>").due(due, "a blank", "77 E/t/page.xhtml <a ");
    }

    private void whatIsRead() {
        Desk desk = new Desk();
        due.is("not well formed", desk.report(new Book().put(Book.PAGE, "<html>").bytes()), "30@4:1:7");
        due.is("it is told once", desk.report(new Book().put(Book.PAGE, "<html>")
            .item("id='z' href='t/page.xhtml' media-type='application/xhtml+xml'").bytes()),
            "61@2:12:1 30@4:1:7");
        due.is("a picture isn't read", desk.report(new Book().put(Book.PICTURE, "<html>").bytes()), "");
        due.is("a page of another type isn't read", desk.report(new Book().put("E/z.xhtml", "<html>")
            .item("id='z' href='z.xhtml' media-type='text/html'").bytes()), "");
        due.is("the pages without a package aren't read", desk.report(new Book().put(Book.PAGE, "<html>").swap(Book.PACK, "3.0",
            "2.0").bytes()), "50@2:1:1");
        Book first = new Book().drop("mimetype").drop(Book.CONTAINER).drop(Book.PACK).drop(Book.NAV).put(Book.PAGE, "<html>");
        for (String name : new String[] {Book.NAV, Book.PACK, Book.CONTAINER}) {
            first.put(name, new Book().files.get(name));
        }
        due.is("the first entry as a page", desk.report(first.bytes()), "20@-1:0:0 30@0:1:7");
        due.is("and once more", desk.report(first.bytes()), "20@-1:0:0 30@0:1:7");
        Zip zip = new Book().put(Book.PAGE, "<html>").zip();
        zip.entries.get(4).flags = 1;
        due.is("what isn't read isn't parsed", desk.report(zip.bytes()), "13@4:0:0");
    }

    private void rootsBeside() {
        for (String root : new String[] {"<Html xmlns='http://www.w3.org/1999/xhtml'/>", "<html xmlns='http://www.w3.org/1999/xhtml/'/>",
            "<html xmlns='http://www.w3.org/1999/XHTML'/>", "<x:html xmlns:x='u'/>",
            "<!-- c -->\n<x><html xmlns='http://www.w3.org/1999/xhtml'/></x>"}) {
            new Book().put(Book.PAGE, root).due(due, root, "75 E/t/page.xhtml <" + (root.startsWith("<!") ? "x" : ""));
        }
        new Book().put(Book.PAGE, "<x xmlns:h='http://www.w3.org/1999/xhtml'><h:img/><h:a href='q'/></x>")
            .due(due, "all the same", "75 E/t/page.xhtml <x", "76 E/t/page.xhtml <h:img", "77 E/t/page.xhtml <h:a");
        new Book().put(Book.PAGE, "<a xmlns='http://www.w3.org/1999/xhtml' href='q'/>")
            .due(due, "a link as the root", "75 E/t/page.xhtml <", "77 E/t/page.xhtml <");
        page("").due(due, "nothing in it");
    }

    private void pictures() {
        page("<p><b><img/></b></p>").due(due, "one deeper", "76 E/t/page.xhtml <img");
        page("<IMG/><image src='q'/><imgs/><x:img xmlns:x='http://www.w3.org/2000/svg'/>").due(due, "no img");
        page("<x:img xmlns:x='http://www.w3.org/1999/xhtml'/>").due(due, "by a prefix", "76 E/t/page.xhtml <x:img");
        page("<img Src='../i/pic.png'/>").due(due, "no src", "76 E/t/page.xhtml <img");
        page("<img xml:src='../i/pic.png'/>").due(due, "a src of xml", "76 E/t/page.xhtml <img");
        page("<img src='../i/pic.png' alt='' href='q'/>").due(due, "an img has no link");
        page("<img src='data:x'/>").due(due, "with a : ahead", "76 E/t/page.xhtml <img");
        page("<img src='#'/>").due(due, "the page itself", "46 E/t/page.xhtml <img");
        page("<img src='../nav.xhtml'/><img src='q'/>").due(due, "46 and 76", "46 E/t/page.xhtml <img", "76 E/t/page.xhtml <img src='q'");
    }

    private void fallbacksOfPictures() {
        String at = "46 E/t/page.xhtml <img";
        new Book().swap(Book.PACK, "image/png'", "x/y' fallback='nav'").due(due, "to a page", at);
        new Book().swap(Book.PACK, "image/png'", "x/y' fallback='q'").due(due, "to nothing", at, "62 E/p.opf <item id='pic'");
        new Book().swap(Book.PACK, "image/png'", "x/y' fallback='z'").item("id='z' href='z' media-type='x/y' fallback='pic'").put("E/z", "")
            .due(due, "in a ring", at, "63 E/p.opf <item id='pic'", "63 E/p.opf <item id='z'");
        new Book().swap(Book.PACK, "image/png'", "x/y' fallback='z'").item("id='z' href='z' media-type='image/svg+xml' fallback='pic'")
            .put("E/z", "")
            .due(due, "to one in a ring", "63 E/p.opf <item id='pic'", "63 E/p.opf <item id='z'");
        new Book().swap(Book.PACK, "image/png'", "x/y' fallback='z'").item("id='z' href='z' media-type='image/webp'")
            .due(due, "to a missing one", "60 E/p.opf <item id='z'");
        String first = "<item id='y' href='i/pic.png' media-type='x/y'/>";
        new Book().swap(Book.PACK, "<manifest>", "<manifest>" + first)
            .due(due, "the first item of the path is another", at, "61 E/p.opf <item id='pic'");
        new Book().swap(Book.PACK, "<manifest>", "<manifest>" + first.replace("'/>", "' fallback='pic'/>"))
            .due(due, "the first item's fallback", "61 E/p.opf <item id='pic'");
        new Book().swap(Book.PACK, "<manifest>", "<manifest><item id='y' href='i/pic.png#' media-type='x/y'/>")
            .due(due, "one ahead with 59", "59 E/p.opf <item id='y'");
    }

    private void linksBeside() {
        page("<p><a href='q'/></p>").due(due, "one deeper", "77 E/t/page.xhtml <a");
        page("<A href='q'/><area href='q'/><link href='q'/><x:a xmlns:x='http://www.w3.org/2000/svg' href='q'/>").due(due, "no a");
        page("<x:a xmlns:x='http://www.w3.org/1999/xhtml' href='q'/>").due(due, "by a prefix", "77 E/t/page.xhtml <x:a");
        page("<a xml:href='q' Href='q'/>").due(due, "no href");
        for (String far : new String[] {":", "a:", "x:y", "http://x/y?z#w", "%:", " :", "mailto:a b", ":#", ":/"}) {
            page("<a href='" + far + "'/>").due(due, "a : ahead, " + far);
        }
        for (String wrong : new String[] {"", " ", "/", "/x:y", "?:", "#%", "a/:", "?", "q#:", "page.xhtml?", "page.xhtml#?", "../../x",
            "../../../x", "%3A", ".", ".."}) {
            page("<a href='" + wrong + "'/>").due(due, "href [" + wrong + "]", "77 E/t/page.xhtml <a");
        }
        for (String right : new String[] {"#", "#x", "#x:y", "page.xhtml", "page.xhtml#x:y", "./page.xhtml", "../nav.xhtml", "../i/pic.png",
            "../t/%70age.xhtml"}) {
            page("<a href='" + right + "'/>").due(due, "href " + right);
        }
    }

    /** Entries that no item tells: they are there, but that isn't enough. */
    private void pathsOfNoItem() {
        page("<a href='../x'/><img src='../x'/>").put("E/x", "")
            .due(due, "no item's", "77 E/t/page.xhtml <a", "76 E/t/page.xhtml <img", "90 E/x");
        page("<a href='../x'/><img src='../x'/>").put("E/x", "").item("id='x' href='x#' media-type='image/gif'")
            .due(due, "an item's with 59", "77 E/t/page.xhtml <a", "76 E/t/page.xhtml <img", "90 E/x", "59 E/p.opf <item id='x'");
        page("<a href='../x'/><img src='../x'/>").put("E/x", "").item("href='x' media-type='image/gif'")
            .due(due, "an item's with 57", "77 E/t/page.xhtml <a", "76 E/t/page.xhtml <img", "90 E/x", "57 E/p.opf <item href='x'");
        page("<a href='../x'/><img src='../x'/>").item("id='x' href='x' media-type='image/gif'")
            .due(due, "an item's with 60", "77 E/t/page.xhtml <a", "76 E/t/page.xhtml <img", "60 E/p.opf <item id='x'");
        page("<a href='../p.opf'/><a href='../../mimetype'/><a href='../../META-INF/container.xml'/>")
            .due(due, "the package's and others", "77 E/t/page.xhtml <a", "77 E/t/page.xhtml <a>><a", "77 E/t/page.xhtml <a>><a>><a");
    }

    private void lookedAtOnce() {
        String twice = "id='z' href='t/page.xhtml' media-type='application/xhtml+xml'";
        page("<img/>").item(twice).due(due, "two items of one page", "61 E/p.opf <item id='z'", "76 E/t/page.xhtml <img");
        page("<img/>").swap(Book.PACK, "<manifest>", "<manifest><item id='z' href='t/page.xhtml' media-type='x/y'/>")
            .due(due, "a page whose first item is of another type", "61 E/p.opf <item id='page'", "76 E/t/page.xhtml <img");
        new Book().swap(Book.PACK, "<manifest>", "<manifest><item id='z' href='nav.xhtml' media-type='application/xhtml+xml'/>")
            .swap(Book.NAV, ">One<", "><")
            .due(due, "a navigation that another item has first", "61 E/p.opf <item id='nav'", "74 E/nav.xhtml <a href='t");
        Desk desk = new Desk();
        desk.check(new Book().item("id='z' href='nav.xhtml' media-type='application/xhtml+xml'").bytes());
        due.is("its contents are taken once", desk.about(5), 3);
        due.is("it isn't parsed, once", new Desk().report(new Book().put(Book.PAGE, "<x").item(twice).item(twice.replace("'z'",
            "'y'")).bytes()), "61@2:12:1 61@2:13:1 30@4:1:3");
    }
}
