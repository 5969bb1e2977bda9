/** The package's items and refs: 24, 43 to 45, 57, 59 to 69, 90, and the reading order. */
public final class ManifestTest {
    private static final String XHTML = "application/xhtml+xml";

    private final Due due = new Due();

    public static void main(String[] args) {
        ManifestTest test = new ManifestTest();
        test.lacking();
        test.fallbacks();
        test.overlays();
        test.properties();
        test.navigations();
        test.refs();
        test.orders();
        test.strays();
        test.due.close();
    }

    private void lacking() {
        String at = "57 E/p.opf <item id='pic'>><item ";
        new Book().item("href='pic' media-type='x/y'").due(due, "no id", at);
        new Book().item("id='z' media-type='x/y'").due(due, "no href", at);
        new Book().item("id='z' href='pic'").due(due, "no media-type", at);
        new Book().item("id='' href='pic' media-type='x/y'").due(due, "an empty id", at);
        new Book().item("id='z' href='' media-type='x/y'").due(due, "an empty href", at);
        new Book().item("id='z' href='pic' media-type=''").due(due, "an empty media-type", at);
        new Book().item("href='i/pic.png' properties='nav cover-image x' fallback='q' media-overlay='q'").due(due, "it counts for nothing else", at);
        new Book().swap(Book.PACK, "<manifest>", "<manifest><x/><item xmlns='u'/><x><item/></x>").due(due, "no items");
        Desk desk = new Desk();
        desk.check(new Book().item("id='z'").bytes());
        due.is("how many items", desk.about(6), 3);
        new Book().item("id='z'").swap(Book.PACK, "idref='page'", "idref='z'")
            .due(due, "a ref to one that lacks", at, "66 E/p.opf <itemref idref='z'", "73 E/nav.xhtml <a href='t/page");
    }

    private void fallbacks() {
        new Book().item("id='z' href='z' media-type='x/y' fallback='page'").put("E/z", "").due(due, "a fallback");
        new Book().item("id='z' href='z' media-type='x/y' fallback='q'").put("E/z", "").due(due, "a lost fallback", "62 E/p.opf <item id='z'");
        new Book().item("id='z' href='z' media-type='x/y' fallback=''").put("E/z", "").due(due, "an empty fallback", "62 E/p.opf <item id='z'");
        new Book().item("id='z' href='z' media-type='x/y' fallback='z'").put("E/z", "").due(due, "itself", "63 E/p.opf <item id='z'");
        new Book().swap(Book.PACK, "id='nav'", "id='nav' fallback='nav'").due(due, "the first item itself", "63 E/p.opf <item id='nav'");
        Book ring = new Book().item("id='y' href='y' media-type='x/y' fallback='z'").put("E/y", "").item("id='z' href='z' media-type='x/y' fallback='y'")
            .put("E/z", "").item("id='w' href='w' media-type='x/y' fallback='z'").put("E/w", "");
        ring.due(due, "a ring, and one that leads to it", "63 E/p.opf <item id='y'", "63 E/p.opf <item id='z'");
        ring.swap(Book.PACK, "</spine>", "<itemref idref='w'/></spine>");
        ring.due(due, "a ref that ends in a ring", "63 E/p.opf <item id='y'", "63 E/p.opf <item id='z'", "69 E/p.opf <itemref idref='w'");
    }

    private void overlays() {
        String smil = "<smil xmlns='http://www.w3.org/ns/SMIL' version='3.0'><body><par><text src='nav.xhtml'/></par></body></smil>";
        Book book = new Book().item("id='o' href='o' media-type='application/smil+xml'").put("E/o", smil);
        book.swap(Book.PACK, "id='page'", "id='page' media-overlay='o'").due(due, "an overlay");
        new Book().swap(Book.PACK, "id='page'", "id='page' media-overlay='o'").due(due, "a lost overlay", "24 E/p.opf <item id='page'");
        new Book().swap(Book.PACK, "id='page'", "id='page' media-overlay='pic'").due(due, "no overlay", "24 E/p.opf <item id='page'");
        new Book().swap(Book.PACK, "id='page'", "id='page' media-overlay=''").due(due, "an empty one", "24 E/p.opf <item id='page'");
    }

    private void properties() {
        new Book().swap(Book.PACK, "media-type='image/png'", "media-type='image/png' properties=' cover-image '").due(due, "a cover");
        new Book().swap(Book.PACK, "media-type='image/png'", "media-type='image/' properties='cover-image'")
            .due(due, "a cover of image/", "44 E/p.opf <item id='pic'", "46 E/t/page.xhtml <img");
        new Book().swap(Book.PACK, "media-type='image/png'", "media-type='image/x' properties='cover-image'").due(due, "a cover of image/x", "46 E/t/page.xhtml <img");
        new Book().swap(Book.PACK, "id='page'", "id='page' properties='cover-image'").due(due, "a page as cover", "44 E/p.opf <item id='page'");
        new Book().swap(Book.PACK, "media-type='image/png'", "media-type='image/png' properties='cover-image'")
            .item("id='z' href='z.gif' media-type='image/gif' properties='cover-image'").put("E/z.gif", "").due(due, "two covers", "43 E/p.opf <manifest");
        new Book().swap(Book.PACK, "id='page'", "id='page' properties='mathml remote-resources scripted svg switch'").due(due, "all the others");
        new Book().swap(Book.PACK, "id='page'", "id='page' properties=''").due(due, "no properties");
        for (String word : new String[] {"x", "Nav", "svgs", "sv", "svg,switch", "scripted x"}) {
            new Book().swap(Book.PACK, "id='page'", "id='page' properties='" + word + "'").due(due, "property " + word, "45 E/p.opf <item id='page'");
        }
    }

    private void navigations() {
        new Book().swap(Book.PACK, " properties='nav'", "").due(due, "no navigation", "64 E/p.opf <manifest");
        new Book().swap(Book.PACK, "id='page'", "id='page' properties='nav'").due(due, "two", "64 E/p.opf <manifest");
        new Book().swap(Book.PACK, "media-type='application/xhtml+xml' properties='nav'", "media-type='x/y' properties='nav'")
            .due(due, "one of another type", "65 E/p.opf <item id='nav'", "69 E/p.opf <itemref idref='nav'");
        Desk desk = new Desk();
        desk.check(new Book().swap(Book.PACK, " properties='nav'", "").bytes());
        due.is("no navigation's entry", desk.about(3), EpubDesk.NONE);
        due.is("no contents", desk.about(5), 0);
        desk.check(new Book().swap(Book.PACK, "id='page'", "id='page' properties='nav'").bytes());
        due.is("the first one's entry", desk.about(3), 3);
        desk.check(new Book().swap(Book.PACK, "href='nav.xhtml' media-type='application/xhtml+xml'", "href='nav.xhtml' media-type='x'").bytes());
        due.is("the entry of one of another type", desk.about(3), 3);
        due.is("its contents", desk.about(5), 0);
        desk.check(new Book().swap(Book.PACK, "href='nav.xhtml'", "href='nav.xhtml#x'").bytes());
        due.is("one without a path", desk.about(3), EpubDesk.NONE);
        desk.check(new Book().swap(Book.PACK, "href='nav.xhtml'", "href='gone.xhtml'").bytes());
        due.is("a missing one", desk.about(3), EpubDesk.NONE);
    }

    private void refs() {
        String ref = "</spine>";
        new Book().swap(Book.PACK, ref, "<itemref/></spine>").due(due, "no idref", "66 E/p.opf <itemref/");
        new Book().swap(Book.PACK, ref, "<itemref idref='q'/></spine>").due(due, "no such item", "66 E/p.opf <itemref idref='q'");
        new Book().swap(Book.PACK, ref, "<itemref idref=''/></spine>").due(due, "an empty idref", "66 E/p.opf <itemref idref=''");
        new Book().swap(Book.PACK, ref, "<itemref idref='uid'/></spine>").due(due, "no item's id", "66 E/p.opf <itemref idref='uid'");
        new Book().swap(Book.PACK, ref, "<itemref idref='q'/><itemref idref='q'/></spine>")
            .due(due, "no such item twice", "66 E/p.opf <itemref idref='q'", "66 E/p.opf <itemref idref='q'>><itemref idref='q'");
        new Book().swap(Book.PACK, ref, "<itemref idref='nav' linear='no'/></spine>").due(due, "again", "67 E/p.opf <itemref idref='nav' linear");
        new Book().swap(Book.PACK, ref, "<itemref idref='pic'/></spine>").due(due, "a picture", "69 E/p.opf <itemref idref='pic'");
        new Book().swap(Book.PACK, ref, "<itemref idref='pic'/></spine>").swap(Book.PACK, "id='pic'", "id='pic' fallback='page'").due(due, "a picture with a fallback");
        new Book().swap(Book.PACK, ref, "<itemref idref='pic'/></spine>").swap(Book.PACK, "image/png", "image/svg+xml").due(due, "a drawing");
        new Book().swap(Book.PACK, ref, "<itemref xmlns='u'/><x><itemref/></x></spine>").due(due, "no refs");
        new Book().swap(Book.PACK, "idref='nav'", "idref='nav' linear='no'").swap(Book.PACK, "idref='page'", "idref='page' linear='no'")
            .due(due, "none linear", "68 E/p.opf <spine");
        new Book().swap(Book.PACK, "idref='nav'", "idref='nav' linear='no'").due(due, "one linear");
        new Book().swap(Book.PACK, "idref='nav'", "idref='nav' linear='no'").swap(Book.PACK, "idref='page'", "idref='q'")
            .due(due, "a lost one is linear", "66 E/p.opf <itemref idref='q'", "73 E/nav.xhtml <a href='t/page");
    }

    private void order(String what, Book book, String want) {
        Desk desk = new Desk();
        desk.check(book.bytes());
        due.is("order: " + what, desk.order(), want);
        due.is("order: " + what + ": how many", desk.about(4), want.isEmpty() ? 0 : want.split(" ").length);
    }

    private void orders() {
        order("plain", new Book(), "E/nav.xhtml E/t/page.xhtml");
        order("turned", new Book().swap(Book.PACK, "idref='nav'", "idref='q'").swap(Book.PACK, "idref='page'", "idref='nav'")
            .swap(Book.PACK, "idref='q'", "idref='page'"), "E/t/page.xhtml E/nav.xhtml");
        order("again", new Book().swap(Book.PACK, "</spine>", "<itemref idref='nav'/><itemref idref='pic'/></spine>"), "E/nav.xhtml E/t/page.xhtml E/i/pic.png");
        order("aside", new Book().swap(Book.PACK, "idref='nav'", "idref='nav' linear='no'"), "E/t/page.xhtml");
        order("other words", new Book().swap(Book.PACK, "idref='nav'", "idref='nav' linear='No'"), "E/nav.xhtml E/t/page.xhtml");
        order("aside, then again", new Book().swap(Book.PACK, "idref='nav'", "idref='nav' linear='no'").swap(Book.PACK, "</spine>", "<itemref idref='nav'/></spine>"), "E/t/page.xhtml");
        order("missing and bad", new Book().swap(Book.PACK, "href='nav.xhtml'", "href='q'").swap(Book.PACK, "href='t/page.xhtml'", "href='/'"), "");
        order("two items of one path", new Book().item("id='z' href='nav.xhtml' media-type='" + XHTML + "'").swap(Book.PACK, "</spine>", "<itemref idref='z'/></spine>"),
            "E/nav.xhtml E/t/page.xhtml E/nav.xhtml");
        order("without a package", new Book().swap(Book.PACK, "3.0", "2.0"), "");
    }

    private void strays() {
        new Book().put("x", "").due(due, "a stray", "90 x");
        new Book().put("META-INF/x", "").due(due, "beside the container");
        new Book().put("meta-inf/x", "").due(due, "only just so", "90 meta-inf/x");
        new Book().put("META-INF", "").due(due, "only behind the /", "90 META-INF");
        new Book().put("x/", "").due(due, "a wrong name", "10 x/");
        new Book().put("E/NAV.xhtml", "").due(due, "the same but for capitals", "12 E/NAV.xhtml", "90 E/NAV.xhtml");
        Book first = new Book().drop("mimetype").put("x", "").put("mimetype", "application/epub+zip");
        Zip ahead = first.zip();
        ahead.entries.add(0, ahead.entries.remove(5));
        due.is("the first entry", new Desk().report(ahead.bytes()), "90@0:0:0 21@6:0:0");
        Zip zip = new Book().zip();
        zip.stored(Book.PAGE, new byte[0]);
        zip.stored("y", new byte[0]);
        zip.stored("y", new byte[0]);
        due.is("names again", new Desk().report(zip.bytes()), "11@6:0:0 90@7:0:0 11@8:0:0");
        new Book().put("x", "").swap(Book.PACK, "3.0", "2.0").due(due, "not with 50", "50 E/p.opf <package");
        new Book().put("x", "").swap(Book.PACK, "<spine>", "<x/><spine>").due(due, "not with 52", "52 E/p.opf <package");
        new Book().put("x", "").swap(Book.CONTAINER, "E/p.opf", "E/q").due(due, "not with 42", "42 META-INF/container.xml <rootfile full");
        new Book().put("x", "").item("id='z' href='../x#' media-type='x/y'").due(due, "an item without a path", "59 E/p.opf <item id='z'", "90 x");
    }
}
