/** Pages: 75 to 77, 46; what is read at all. */
public final class ContentTest {
    private static final String HTML = "<html xmlns='http://www.w3.org/1999/xhtml'>";

    private final Due due = new Due();

    public static void main(String[] args) {
        ContentTest test = new ContentTest();
        test.roots();
        test.images();
        test.links();
        test.whatIsRead();
        test.due.close();
    }

    private Book page(String inside) {
        return new Book().put(Book.PAGE, HTML + "\n" + inside + "</html>");
    }

    private void roots() {
        new Book().put(Book.PAGE, "<html/>").due(due, "no namespace", "75 E/t/page.xhtml <");
        new Book().put(Book.PAGE, "<x xmlns='http://www.w3.org/1999/xhtml'/>").due(due, "another root", "75 E/t/page.xhtml <");
        new Book().put(Book.PAGE, "<x><img xmlns='http://www.w3.org/1999/xhtml'/></x>").due(due, "it is looked at all the same", "75 E/t/page.xhtml <x", "76 E/t/page.xhtml <img");
        new Book().put(Book.PAGE, "<h:html xmlns:h='http://www.w3.org/1999/xhtml'><h:img/></h:html>").due(due, "a prefix", "76 E/t/page.xhtml <h:img");
        new Book().put(Book.PAGE, "<img xmlns='http://www.w3.org/1999/xhtml'/>").due(due, "the root itself", "75 E/t/page.xhtml <", "76 E/t/page.xhtml <");
    }

    private void images() {
        page("<img/>").due(due, "no src", "76 E/t/page.xhtml <img");
        page("<img src=''/>").due(due, "an empty src", "76 E/t/page.xhtml <img");
        page("<img src='http://x/y'/>").due(due, "a far src", "76 E/t/page.xhtml <img");
        page("<img src='pic.png'/>").due(due, "a missing one", "76 E/t/page.xhtml <img");
        page("<img src='../p.opf'/>").due(due, "no item's", "76 E/t/page.xhtml <img");
        page("<img src='../i/pic.png#x'/><p><img src='../../E/i/pic.png'/></p>").due(due, "right ones");
        page("<img src='../../mimetype'/><a href='../../mimetype'/>").item("id='m' href='../mimetype' media-type='image/gif'").due(due, "the first entry");
        page("<img src='../nav.xhtml'/>").due(due, "a page", "46 E/t/page.xhtml <img");
        page("<img xmlns='u'/><x:img xmlns:x='u'/>").due(due, "of other namespaces");
        page("<img xmlns:q='u' q:src='../i/pic.png'/>").due(due, "a src of a namespace", "76 E/t/page.xhtml <img");
        for (String type : "image/gif image/jpeg image/png image/svg+xml image/webp".split(" ")) {
            new Book().swap(Book.PACK, "image/png", type).due(due, "a picture of " + type);
        }
        for (String type : new String[] {"image/bmp", "image/PNG", "image", "image/png ", "text/css", "image/gif image/jpeg"}) {
            new Book().swap(Book.PACK, "image/png", type).due(due, "a picture of " + type, "46 E/t/page.xhtml <img");
        }
        new Book().swap(Book.PACK, "image/png'", "image/bmp' fallback='z'").item("id='z' href='z' media-type='x/y' fallback='w'").put("E/z", "")
            .item("id='w' href='w' media-type='image/gif'").put("E/w", "").due(due, "a picture with fallbacks");
        new Book().swap(Book.PACK, "image/png'", "image/bmp' fallback='pic'").due(due, "a picture in a ring", "63 E/p.opf <item id='pic'", "46 E/t/page.xhtml <img");
        new Book().item("id='z' href='i/pic.png' media-type='image/bmp'").due(due, "the first item counts", "61 E/p.opf <item id='z'");
        new Book().swap(Book.PACK, "href='i/pic.png'", "href='i/pic.png#'").due(due, "an item without a path", "59 E/p.opf <item id='pic'", "76 E/t/page.xhtml <img", "90 E/i/pic.png");
        page("<img src='../i/pic.png'/><img/><img/>").due(due, "each is told", "76 E/t/page.xhtml <img/", "76 E/t/page.xhtml <img/>><img/");
    }

    private void links() {
        page("<a/><a name='x'/>").due(due, "no href");
        page("<a href='http://x'/><a href='mailto:x'/><a href=':'/>").due(due, "far ones");
        page("<a href='#x'/><a href='page.xhtml#x'/><a href='../i/pic.png'/>").due(due, "right ones");
        page("<a href=''/>").due(due, "an empty one", "77 E/t/page.xhtml <a ");
        page("<a href='?a:b'/>").due(due, "a question", "77 E/t/page.xhtml <a ");
        page("<a href='x/a:b'/>").due(due, "a : behind a /", "77 E/t/page.xhtml <a ");
        page("<a href='/a'/>").due(due, "from the top", "77 E/t/page.xhtml <a ");
        page("<a href='q'/>").due(due, "a missing one", "77 E/t/page.xhtml <a ");
        page("<a href='../p.opf'/>").due(due, "no item's", "77 E/t/page.xhtml <a ");
        page("<a xmlns='u' href='q'/><b href='q'/>").due(due, "no a");
        page("<a xmlns:q='u' q:href='q'/>").due(due, "an href of a namespace");
        page("<a href=' page.xhtml'/>").due(due, "a blank", "77 E/t/page.xhtml <a ");
    }

    private void whatIsRead() {
        Desk desk = new Desk();
        due.is("not well formed", desk.report(new Book().put(Book.PAGE, "<html>").bytes()), "30@4:1:7");
        due.is("it is told once", desk.report(new Book().put(Book.PAGE, "<html>").item("id='z' href='t/page.xhtml' media-type='application/xhtml+xml'").bytes()),
            "61@2:12:1 30@4:1:7");
        due.is("a picture isn't read", desk.report(new Book().put(Book.PICTURE, "<html>").bytes()), "");
        due.is("a page of another type isn't read", desk.report(new Book().put("E/z.xhtml", "<html>").item("id='z' href='z.xhtml' media-type='text/html'").bytes()), "");
        due.is("the pages without a package aren't read", desk.report(new Book().put(Book.PAGE, "<html>").swap(Book.PACK, "3.0", "2.0").bytes()), "50@2:1:1");
        Book first = new Book().drop("mimetype").drop(Book.CONTAINER).drop(Book.PACK).drop(Book.NAV).put(Book.PAGE, "<html>");
        for (String name : new String[] {Book.NAV, Book.PACK, Book.CONTAINER}) {
            first.put(name, new Book().files.get(name));
        }
        due.is("the first entry as a page", desk.report(first.bytes()), "20@-1:0:0 30@0:1:7");
        due.is("and once more", desk.report(first.bytes()), "20@-1:0:0 30@0:1:7");
        Zip zip = new Book().put(Book.PAGE, "<html>").zip();
        zip.entries.get(4).flags = 1;
        due.is("what isn't read isn't parsed", desk.report(zip.bytes()), "13@4:0:0");
    }
}
