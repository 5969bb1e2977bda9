/** The package's items and refs: 24, 43 to 45, 57, 59 to 69, 90, and the reading order. */
public final class ManifestTest {
    private static final String XHTML = "application/xhtml+xml";

    private final Due due = new Due();

    public static void main(String[] args) {
        ManifestTest test = new ManifestTest();
        test.lacking();
        test.fallbacks();
        test.overlays();
        test.properties();
        test.navigations();
        test.refs();
        test.orders();
        test.strays();
        test.itemsThatAreNone();
        test.hrefs();
        test.badHrefs();
        test.samePaths();
        test.firstWithAnId();
        test.ringsOfFallbacks();
        test.coverTypes();
        test.navigationsOfTypes();
        test.refsBeside();
        test.linears();
        test.chains();
        test.ordersBeside();
        test.straysBeside();
        test.percents();
        test.endsOfValues();
        test.firstItems();
        test.fullArchive();
        test.due.close();
    }

    private void lacking() {
        String at = "57 E/p.opf <item id='pic'>><item ";
        new Book().item("href='pic' media-type='x/y'").due(due, "no id", at);
        new Book().item("id='z' media-type='x/y'").due(due, "no href", at);
        new Book().item("id='z' href='pic'").due(due, "no media-type", at);
        new Book().item("id='' href='pic' media-type='x/y'").due(due, "an empty id", at);
        new Book().item("id='z' href='' media-type='x/y'").due(due, "an empty href", at);
        new Book().item("id='z' href='pic' media-type=''").due(due, "an empty media-type", at);
        new Book().item("href='i/pic.png' properties='nav cover-image x' fallback='q' media-overlay='q'")
            .due(due, "it counts for nothing else", at);
        new Book().swap(Book.PACK, "<manifest>", "<manifest><x/><item xmlns='u'/><x><item/></x>").due(due, "no items");
        Desk desk = new Desk();
        desk.check(new Book().item("id='z'").bytes());
        due.is("how many items", desk.about(6), 3);
        new Book().item("id='z'").swap(Book.PACK, "idref='page'", "idref='z'")
            .due(due, "a ref to one that lacks", at, "66 E/p.opf <itemref idref='z'", "73 E/nav.xhtml <a href='t/page");
    }

    private void fallbacks() {
        new Book().item("id='z' href='z' media-type='x/y' fallback='page'").put("E/z", "").due(due, "a fallback");
        new Book().item("id='z' href='z' media-type='x/y' fallback='q'").put("E/z", "")
            .due(due, "a lost fallback", "62 E/p.opf <item id='z'");
        new Book().item("id='z' href='z' media-type='x/y' fallback=''").put("E/z", "")
            .due(due, "an empty fallback", "62 E/p.opf <item id='z'");
        new Book().item("id='z' href='z' media-type='x/y' fallback='z'").put("E/z", "").due(due, "itself", "63 E/p.opf <item id='z'");
        new Book().swap(Book.PACK, "id='nav'", "id='nav' fallback='nav'").due(due, "the first item itself", "63 E/p.opf <item id='nav'");
        Book ring = new Book().item("id='y' href='y' media-type='x/y' fallback='z'").put("E/y", "")
            .item("id='z' href='z' media-type='x/y' fallback='y'")
            .put("E/z", "").item("id='w' href='w' media-type='x/y' fallback='z'").put("E/w", "");
        ring.due(due, "a ring, and one that leads to it", "63 E/p.opf <item id='y'", "63 E/p.opf <item id='z'");
        ring.swap(Book.PACK, "</spine>", "<itemref idref='w'/></spine>");
        ring.due(due, "a ref that ends in a ring", "63 E/p.opf <item id='y'", "63 E/p.opf <item id='z'", "69 E/p.opf <itemref idref='w'");
    }

    private void overlays() {
        String smil = "<smil xmlns='http://www.w3.org/ns/SMIL' version='3.0'><body><par><text src='nav.xhtml'/></par></body></smil>";
        Book book = new Book().item("id='o' href='o' media-type='application/smil+xml'").put("E/o", smil);
        book.swap(Book.PACK, "id='page'", "id='page' media-overlay='o'").due(due, "an overlay");
        new Book().swap(Book.PACK, "id='page'", "id='page' media-overlay='o'").due(due, "a lost overlay", "24 E/p.opf <item id='page'");
        new Book().swap(Book.PACK, "id='page'", "id='page' media-overlay='pic'").due(due, "no overlay", "24 E/p.opf <item id='page'");
        new Book().swap(Book.PACK, "id='page'", "id='page' media-overlay=''").due(due, "an empty one", "24 E/p.opf <item id='page'");
    }

    private void properties() {
        new Book().swap(Book.PACK, "media-type='image/png'", "media-type='image/png' properties=' cover-image '").due(due, "a cover");
        new Book().swap(Book.PACK, "media-type='image/png'", "media-type='image/' properties='cover-image'")
            .due(due, "a cover of image/", "44 E/p.opf <item id='pic'", "46 E/t/page.xhtml <img");
        new Book().swap(Book.PACK, "media-type='image/png'", "media-type='image/x' properties='cover-image'")
            .due(due, "a cover of image/x", "46 E/t/page.xhtml <img");
        new Book().swap(Book.PACK, "id='page'", "id='page' properties='cover-image'")
            .due(due, "a page as cover", "44 E/p.opf <item id='page'");
        new Book().swap(Book.PACK, "media-type='image/png'", "media-type='image/png' properties='cover-image'")
            .item("id='z' href='z.gif' media-type='image/gif' properties='cover-image'").put("E/z.gif", "")
                .due(due, "two covers", "43 E/p.opf <manifest");
        new Book().swap(Book.PACK, "id='page'", "id='page' properties='mathml remote-resources scripted svg switch'")
            .due(due, "all the others");
        new Book().swap(Book.PACK, "id='page'", "id='page' properties=''").due(due, "no properties");
        for (String word : new String[] {"x", "Nav", "svgs", "sv", "svg,switch", "scripted x"}) {
            new Book().swap(Book.PACK, "id='page'", "id='page' properties='" + word + "'")
                .due(due, "property " + word, "45 E/p.opf <item id='page'");
        }
    }

    private void navigations() {
        new Book().swap(Book.PACK, " properties='nav'", "").due(due, "no navigation", "64 E/p.opf <manifest");
        new Book().swap(Book.PACK, "id='page'", "id='page' properties='nav'").due(due, "two", "64 E/p.opf <manifest");
        new Book().swap(Book.PACK, "media-type='application/xhtml+xml' properties='nav'", "media-type='x/y' properties='nav'")
            .due(due, "one of another type", "65 E/p.opf <item id='nav'", "69 E/p.opf <itemref idref='nav'");
        Desk desk = new Desk();
        desk.check(new Book().swap(Book.PACK, " properties='nav'", "").bytes());
        due.is("no navigation's entry", desk.about(3), EpubDesk.NONE);
        due.is("no contents", desk.about(5), 0);
        desk.check(new Book().swap(Book.PACK, "id='page'", "id='page' properties='nav'").bytes());
        due.is("the first one's entry", desk.about(3), 3);
        desk.check(new Book().swap(Book.PACK, "href='nav.xhtml' media-type='application/xhtml+xml'",
            "href='nav.xhtml' media-type='x'").bytes());
        due.is("the entry of one of another type", desk.about(3), 3);
        due.is("its contents", desk.about(5), 0);
        desk.check(new Book().swap(Book.PACK, "href='nav.xhtml'", "href='nav.xhtml#x'").bytes());
        due.is("one without a path", desk.about(3), EpubDesk.NONE);
        desk.check(new Book().swap(Book.PACK, "href='nav.xhtml'", "href='gone.xhtml'").bytes());
        due.is("a missing one", desk.about(3), EpubDesk.NONE);
    }

    private void refs() {
        String ref = "</spine>";
        new Book().swap(Book.PACK, ref, "<itemref/></spine>").due(due, "no idref", "66 E/p.opf <itemref/");
        new Book().swap(Book.PACK, ref, "<itemref idref='q'/></spine>").due(due, "no such item", "66 E/p.opf <itemref idref='q'");
        new Book().swap(Book.PACK, ref, "<itemref idref=''/></spine>").due(due, "an empty idref", "66 E/p.opf <itemref idref=''");
        new Book().swap(Book.PACK, ref, "<itemref idref='uid'/></spine>").due(due, "no item's id", "66 E/p.opf <itemref idref='uid'");
        new Book().swap(Book.PACK, ref, "<itemref idref='q'/><itemref idref='q'/></spine>")
            .due(due, "no such item twice", "66 E/p.opf <itemref idref='q'", "66 E/p.opf <itemref idref='q'>><itemref idref='q'");
        new Book().swap(Book.PACK, ref, "<itemref idref='nav' linear='no'/></spine>")
            .due(due, "again", "67 E/p.opf <itemref idref='nav' linear");
        new Book().swap(Book.PACK, ref, "<itemref idref='pic'/></spine>").due(due, "a picture", "69 E/p.opf <itemref idref='pic'");
        new Book().swap(Book.PACK, ref, "<itemref idref='pic'/></spine>").swap(Book.PACK, "id='pic'", "id='pic' fallback='page'")
            .due(due, "a picture with a fallback");
        new Book().swap(Book.PACK, ref, "<itemref idref='pic'/></spine>").swap(Book.PACK, "image/png", "image/svg+xml")
            .due(due, "a drawing");
        new Book().swap(Book.PACK, ref, "<itemref xmlns='u'/><x><itemref/></x></spine>").due(due, "no refs");
        new Book().swap(Book.PACK, "idref='nav'", "idref='nav' linear='no'").swap(Book.PACK, "idref='page'", "idref='page' linear='no'")
            .due(due, "none linear", "68 E/p.opf <spine");
        new Book().swap(Book.PACK, "idref='nav'", "idref='nav' linear='no'").due(due, "one linear");
        new Book().swap(Book.PACK, "idref='nav'", "idref='nav' linear='no'").swap(Book.PACK, "idref='page'", "idref='q'")
            .due(due, "a lost one is linear", "66 E/p.opf <itemref idref='q'", "73 E/nav.xhtml <a href='t/page");
    }

    private void order(String what, Book book, String want) {
        Desk desk = new Desk();
        desk.check(book.bytes());
        due.is("order: " + what, desk.order(), want);
        due.is("order: " + what + ": how many", desk.about(4), want.isEmpty() ? 0 : want.split(" ").length);
    }

    private void orders() {
        order("plain", new Book(), "E/nav.xhtml E/t/page.xhtml");
        order("turned", new Book().swap(Book.PACK, "idref='nav'", "idref='q'").swap(Book.PACK, "idref='page'", "idref='nav'")
            .swap(Book.PACK, "idref='q'", "idref='page'"), "E/t/page.xhtml E/nav.xhtml");
        order("again", new Book().swap(Book.PACK, "</spine>", "<itemref idref='nav'/><itemref idref='pic'/></spine>"),
            "E/nav.xhtml E/t/page.xhtml E/i/pic.png");
        order("aside", new Book().swap(Book.PACK, "idref='nav'", "idref='nav' linear='no'"), "E/t/page.xhtml");
        order("other words", new Book().swap(Book.PACK, "idref='nav'", "idref='nav' linear='No'"), "E/nav.xhtml E/t/page.xhtml");
        order("aside, then again", new Book().swap(Book.PACK, "idref='nav'", "idref='nav' linear='no'").swap(Book.PACK, "</spine>",
            "<itemref idref='nav'/></spine>"), "E/t/page.xhtml");
        order("missing and bad", new Book().swap(Book.PACK, "href='nav.xhtml'", "href='q'").swap(Book.PACK, "href='t/page.xhtml'",
            "href='/'"), "");
        order("two items of one path", new Book().item("id='z' href='nav.xhtml' media-type='" + XHTML + "'").swap(Book.PACK, "</spine>",
            "<itemref idref='z'/></spine>"),
            "E/nav.xhtml E/t/page.xhtml E/nav.xhtml");
        order("without a package", new Book().swap(Book.PACK, "3.0", "2.0"), "");
    }

    private void strays() {
        new Book().put("x", "").due(due, "a stray", "90 x");
        new Book().put("META-INF/x", "").due(due, "beside the container");
        new Book().put("meta-inf/x", "").due(due, "only just so", "90 meta-inf/x");
        new Book().put("META-INF", "").due(due, "only behind the /", "90 META-INF");
        new Book().put("x/", "").due(due, "a wrong name", "10 x/");
        new Book().put("E/NAV.xhtml", "").due(due, "the same but for capitals", "12 E/NAV.xhtml", "90 E/NAV.xhtml");
        Book first = new Book().drop("mimetype").put("x", "").put("mimetype", "application/epub+zip");
        Zip ahead = first.zip();
        ahead.entries.add(0, ahead.entries.remove(5));
        due.is("the first entry", new Desk().report(ahead.bytes()), "90@0:0:0 21@6:0:0");
        Zip zip = new Book().zip();
        zip.stored(Book.PAGE, new byte[0]);
        zip.stored("y", new byte[0]);
        zip.stored("y", new byte[0]);
        due.is("names again", new Desk().report(zip.bytes()), "11@6:0:0 90@7:0:0 11@8:0:0");
        new Book().put("x", "").swap(Book.PACK, "3.0", "2.0").due(due, "not with 50", "50 E/p.opf <package");
        new Book().put("x", "").swap(Book.PACK, "<spine>", "<x/><spine>").due(due, "not with 52", "52 E/p.opf <package");
        new Book().put("x", "").swap(Book.CONTAINER, "E/p.opf", "E/q").due(due, "not with 42", "42 META-INF/container.xml <rootfile full");
        new Book().put("x", "").item("id='z' href='../x#' media-type='x/y'")
            .due(due, "an item without a path", "59 E/p.opf <item id='z'", "90 x");
    }

    private void itemsThatAreNone() {
        for (String lacking : new String[] {"id", "href", "media-type"}) {
            String all = "id='z' href='z' media-type='x/y' properties='nav'";
            String without = all.replaceAll(" ?\\b" + lacking + "='[^']*'", "");
            new Book().item(without).put("E/z", "").due(due, "no " + lacking, "57 E/p.opf <item id='pic'>><item ", "90 E/z");
            String empty = all.replaceAll("\\b" + lacking + "='[^']*'", lacking + "=''");
            new Book().item(empty).put("E/z", "").due(due, "an empty " + lacking, "57 E/p.opf <item id='pic'>><item ", "90 E/z");
            String blank = all.replaceAll("\\b" + lacking + "='[^']*'", lacking + "=' '").replace(" properties='nav'", "");
            Book book = new Book().item(blank).put("E/z", "");
            if (lacking.equals("href")) {
                book.due(due, "a blank " + lacking, "59 E/p.opf <item id='z'", "90 E/z");
            } else {
                book.due(due, "a blank " + lacking);
            }
        }
        new Book().item("").due(due, "nothing at all", "57 E/p.opf <item id='pic'>><item ");
        new Book().item("id='z'").item("id='z'").due(due, "two of them", "57 E/p.opf <item id='z'", "57 E/p.opf <item id='z'>><item id='z'",
            "58 E/p.opf <item id='z'>><item id='z'");
        new Book().item("id='z' fallback='z'").due(due, "not in a ring", "57 E/p.opf <item id='z'");
        new Book().item("id='z'").item("id='y' href='y' media-type='x/y' fallback='z' media-overlay='z'").put("E/y", "")
            .due(due, "no fallback and no overlay", "57 E/p.opf <item id='z'", "62 E/p.opf <item id='y'", "24 E/p.opf <item id='y'");
        new Book().swap(Book.PACK, "<manifest>", "<manifest><item id='page' href='x'/>")
            .due(due, "not the first with an id", "57 E/p.opf <item id='page' href='x'", "58 E/p.opf <item id='page' href='t");
        new Book().swap(Book.PACK, "</spine>", "<item/></spine>").swap(Book.PACK, "</metadata>", "<item/></metadata>")
            .due(due, "items of other parts");
        new Book().swap(Book.PACK, "</manifest>", "<Item/><items/><x:item xmlns:x='u'/></manifest>").due(due, "other elements");
    }

    private void href(String href, String... messages) {
        new Book().item("id='z' href='" + href + "' media-type='x/y'").due(due, "href " + href, messages);
    }

    private void hrefs() {
        String bad = "59 E/p.opf <item id='z'";
        for (String href : new String[] {"#", "z#", "#z", "i/pic.png#", "i/pic.png#x", "p.opf", "../E/p.opf", "./p.opf", "p.opf/",
            "%70.opf", "p.opf/.", "/z", "z?", "z z", "x:z", "..", "../..", "../../z", "%", "a%2Fb", "http://x/y"}) {
            href(href, bad);
        }
        for (String href : new String[] {"z", "p.opf/z", "P.opf", "../p.opf", "z/p.opf", "i", "i/", "%23"}) {
            href(href, "60 E/p.opf <item id='z'");
        }
        for (String href : new String[] {"i/pic.png", "./i/pic.png", "i/../i/pic.png", "../E/i/pic.png", "i/pic.png/", "%69/pic.png"}) {
            href(href, "61 E/p.opf <item id='z'");
        }
        new Book().item("id='z' href='../mimetype' media-type='x/y'").item("id='y' href='../META-INF/container.xml' media-type='x/y'")
            .due(due, "any entry will do");
    }

    /** Each way to be bad is told as 59, and not as 60. */
    private void badHrefs() {
        for (String href : new String[] {" ", "&#9;", "&#10;z", "z&#13;", "&#32;z", "z\u007f", "z?", "?", "x:z", ":", "/", "/z", "../..",
            "../../..", "../../../z", "%2F", "z%2fz", "#", "z#z"}) {
            href(href, "59 E/p.opf <item id='z'");
        }
        Book top = new Book();
        top.put("p.opf", top.files.get(Book.PACK).replace("href='", "href='E/")).drop(Book.PACK).swap(Book.CONTAINER, "E/p.opf", "p.opf");
        for (String href : new String[] {".", "./", "././.", "x/..", "x/../", "..", "../z", "p.opf", "./p.opf", "E/../p.opf"}) {
            Book book = new Book();
            book.files.clear();
            book.files.putAll(top.files);
            book.swap("p.opf", "</manifest>", "<item id='z' href='" + href + "' media-type='x/y'/></manifest>");
            book.due(due, "a package at the top, href " + href, "59 p.opf <item id='z'");
        }
        for (String href : new String[] {"z", "x/../z", "E", "E/.", "E/p.opf", ".z", "..z"}) {
            Book book = new Book();
            book.files.clear();
            book.files.putAll(top.files);
            book.swap("p.opf", "</manifest>", "<item id='z' href='" + href + "' media-type='x/y'/></manifest>");
            book.due(due, "a package at the top, href " + href, "60 p.opf <item id='z'");
        }
    }

    private void samePaths() {
        String[] hrefs = {"a", "b", "./a", "c#", "b/", "c#", "x/../a"};
        Book book = new Book();
        for (int i = 0; i < hrefs.length; i++) {
            book.item("id='z" + i + "' href='" + hrefs[i] + "' media-type='x/y'");
        }
        String at = " E/p.opf <item id='z";
        book.put("E/b", "").due(due, "missing, there and bad", "60" + at + "0", "60" + at + "2", "61" + at + "2", "59" + at + "3", "61" + at
            + "4", "59" + at + "5", "60" + at + "6", "61" + at + "6");
        new Book().item("id='z' href='%C3%A9' media-type='x/y'").item("id='y' href='\u00e9' media-type='x/y'")
            .due(due, "the same by bytes", "60 E/p.opf <item id='z'", "60 E/p.opf <item id='y'", "61 E/p.opf <item id='y'");
        new Book().item("id='z' href='a//b' media-type='x/y'").item("id='y' href='a/b' media-type='x/y'")
            .due(due, "an empty part is one", "60 E/p.opf <item id='z'", "60 E/p.opf <item id='y'");
        new Book().item("id='z' href='a' media-type='x/y'").item("id='y' href='A' media-type='x/y'")
            .due(due, "capitals", "60 E/p.opf <item id='z'", "60 E/p.opf <item id='y'");
        new Book().item("id='z' href='ab' media-type='x/y'").item("id='y' href='a' media-type='x/y'")
            .due(due, "a longer one ahead", "60 E/p.opf <item id='z'", "60 E/p.opf <item id='y'");
        StringBuilder deep = new StringBuilder();
        Book long1 = new Book();
        for (int i = 0; i < 20; i++) {
            deep.append("0123456789/");
        }
        long1.item("id='z' href='" + deep + "a' media-type='x/y'").item("id='y' href='" + deep + "b' media-type='x/y'").item("id='w' href='"
            + deep + "a' media-type='x/y'");
        long1.due(due, "long ones", "60 E/p.opf <item id='z'", "60 E/p.opf <item id='y'", "60 E/p.opf <item id='w'",
            "61 E/p.opf <item id='w'");
    }

    /** Where an id is there twice, the first item that has it counts. */
    private void firstWithAnId() {
        String again = "58 E/p.opf <item id='d' href='d2'";
        String smil = "<smil xmlns='http://www.w3.org/ns/SMIL' version='3.0'><body><par><text src='nav.xhtml'/></par></body></smil>";
        String page = "<html xmlns='http://www.w3.org/1999/xhtml'/>";
        Book first = new Book().item("id='d' href='d1' media-type='x/y'").item("id='d' href='d2' media-type='" + XHTML + "'").put("E/d1",
            "").put("E/d2", page);
        first.swap(Book.PACK, "</spine>", "<itemref idref='d'/></spine>").due(due, "a ref", again, "69 E/p.opf <itemref idref='d'");
        Book second = new Book().item("id='d' href='d1' media-type='" + XHTML + "'").item("id='d' href='d2' media-type='x/y'").put("E/d2",
            "").put("E/d1", page);
        second.swap(Book.PACK, "</spine>", "<itemref idref='d'/></spine>").due(due, "a ref, the other way", again);
        Book third = new Book().item("id='d' href='d1' media-type='x/y'").item("id='d' href='d2' media-type='" + XHTML + "'").put("E/d1",
            "").put("E/d2", page);
        third.item("id='e' href='e' media-type='x/y' fallback='d'").put("E/e", "").swap(Book.PACK, "</spine>",
            "<itemref idref='e'/></spine>").due(due, "a fallback", again, "69 E/p.opf <itemref idref='e'");
        Book fourth = new Book().item("id='d' href='d1' media-type='x/y'").item("id='d' href='d2' media-type='application/smil+xml'")
            .put("E/d1", "").put("E/d2", smil);
        fourth.swap(Book.PACK, "id='page'", "id='page' media-overlay='d'").due(due, "an overlay", again, "24 E/p.opf <item id='page'");
        Book fifth = new Book().item("id='d' href='d1' media-type='application/smil+xml'").item("id='d' href='d2' media-type='x/y'")
            .put("E/d1", smil).put("E/d2", "");
        fifth.swap(Book.PACK, "id='page'", "id='page' media-overlay='d'").due(due, "an overlay, the other way", again);
        Book sixth = new Book().item("id='d' href='d1' media-type='x/y' fallback='d'")
            .item("id='d' href='d2' media-type='x/y' fallback='d'").put("E/d1", "").put("E/d2", "");
        sixth.due(due, "a ring of the first alone", again, "63 E/p.opf <item id='d' href='d1'");
    }

    private static Book chain(String... pairs) {
        Book book = new Book();
        for (String pair : pairs) {
            book.item("id='" + pair.charAt(0) + "' href='z" + pair.charAt(0) + "' media-type='x/y' fallback='" + pair.substring(1) + "'")
                .put("E/z" + pair.charAt(0), "");
        }
        return book;
    }

    private static String ring(String id) {
        return "63 E/p.opf <item id='" + id + "' href='z";
    }

    private void ringsOfFallbacks() {
        chain("aa").due(due, "one", ring("a"));
        chain("ab", "ba").due(due, "two", ring("a"), ring("b"));
        chain("ab", "bc", "ca").due(due, "three", ring("a"), ring("b"), ring("c"));
        chain("ab", "bc", "cb").due(due, "one that leads to a ring", ring("b"), ring("c"));
        chain("ab", "bc", "cpage").due(due, "a chain with an end");
        chain("ab", "bc", "cq").due(due, "a chain to nothing", "62 E/p.opf <item id='c' href='z");
        chain("ab", "bA").due(due, "capitals", "62 E/p.opf <item id='b' href='z");
        Book full = new Book();
        for (int i = 0; i < 30; i++) {
            full.item("id='r" + i + "' href='nav.xhtml' media-type='x/y' fallback='r" + (i + 1) % 30 + "'");
        }
        Desk desk = new Desk();
        due.is("a ring of thirty", desk.check(full.bytes()), 60);
        due.is("its first codes", desk.message(0, 0) * 100 + desk.message(1, 0), 6163);
    }

    /** A ref whose item isn't right itself, but perhaps by fallbacks. */
    private void chains() {
        String ref = "</spine>";
        chain("apage").swap(Book.PACK, ref, "<itemref idref='a'/></spine>").due(due, "by one");
        chain("ab", "bc", "cd", "dpage").swap(Book.PACK, ref, "<itemref idref='a'/></spine>").due(due, "by four");
        chain("apic").swap(Book.PACK, ref, "<itemref idref='a'/></spine>").due(due, "to a picture", "69 E/p.opf <itemref idref='a'");
        chain("apic").swap(Book.PACK, "image/png", "image/svg+xml").swap(Book.PACK, ref, "<itemref idref='a'/></spine>")
            .due(due, "to a drawing");
        chain("aq").swap(Book.PACK, ref, "<itemref idref='a'/></spine>")
            .due(due, "to nothing", "62 E/p.opf <item id='a'", "69 E/p.opf <itemref idref='a'");
        chain("aa").swap(Book.PACK, ref, "<itemref idref='a'/></spine>").due(due, "to itself", ring("a"), "69 E/p.opf <itemref idref='a'");
        chain("ab", "bb").swap(Book.PACK, ref, "<itemref idref='a'/></spine>")
            .due(due, "into a ring", ring("b"), "69 E/p.opf <itemref idref='a'");
        chain("ab", "ba").item("id='c' href='c' media-type='" + XHTML + "' fallback='a'").put("E/c",
            "<html xmlns='http://www.w3.org/1999/xhtml'/>").swap(Book.PACK, ref, "<itemref idref='c'/></spine>")
            .due(due, "right itself, whatever is behind", ring("a"), ring("b"));
        new Book().item("id='a' href='a#' media-type='x/y' fallback='b'").item("id='b' href='b' media-type='" + XHTML + "'").swap(Book.PACK,
            ref, "<itemref idref='a'/></spine>")
            .due(due, "by ones with 59 and 60", "59 E/p.opf <item id='a'", "60 E/p.opf <item id='b'");
        for (String type : new String[] {"text/html", "application/xhtml", "Application/xhtml+xml", "image/svg", "image/png",
            "application/xhtml+xml "}) {
            new Book().item("id='z' href='z' media-type='" + type + "'").put("E/z", "").swap(Book.PACK, ref, "<itemref idref='z'/></spine>")
                .due(due, "of type " + type, "69 E/p.opf <itemref idref='z'");
        }
    }

    private void coverTypes() {
        for (String type : new String[] {"image/x", "image/png", "image/ ", "image//", "image/\u00e9"}) {
            new Book().item("id='z' href='z' media-type='" + type + "' properties='cover-image'").put("E/z", "")
                .due(due, "a cover of " + type);
        }
        for (String type : new String[] {"image/", "image", "imag", "Image/png", " image/png", "x/image/png", "text/css", XHTML + "x"}) {
            new Book().item("id='z' href='z' media-type='" + type + "' properties='cover-image'").put("E/z", "")
                .due(due, "a cover of " + type, "44 E/p.opf <item id='z'");
        }
        String cover = " media-type='image/gif' properties='cover-image'";
        new Book().item("id='z' href='z'" + cover).put("E/z", "").item("id='y' href='y'" + cover).put("E/y", "").item("id='x' href='x'"
            + cover).put("E/x", "").due(due, "three covers", "43 E/p.opf <manifest");
        new Book().item("id='z' href='z'" + cover).put("E/z", "").item("id='y'" + cover)
            .due(due, "one that counts for nothing else", "57 E/p.opf <item id='y'");
        new Book().item("id='z' href='z#'" + cover).item("id='y' href='y'" + cover)
            .due(due, "without a path, and missing", "59 E/p.opf <item id='z'", "60 E/p.opf <item id='y'", "43 E/p.opf <manifest");
        new Book().item("id='z' href='z' media-type='image/gif' properties='cover-image cover-image'").put("E/z", "")
            .due(due, "the same word twice");
        new Book().item("id='z' href='z' media-type='image/gif' properties='Cover-image'").put("E/z", "")
            .due(due, "capitals", "45 E/p.opf <item id='z'");
        for (String words : new String[] {"mathml", "\tsvg\nswitch\r", "scripted  remote-resources", "&#9;mathml&#10;", "", " "}) {
            new Book().item("id='z' href='z' media-type='x/y' properties='" + words + "'").put("E/z", "")
                .due(due, "properties [" + words + "]");
        }
        for (String words : new String[] {"x", "mathm", "mathmls", "MathML", "mathml,svg", "mathml x", "x mathml", "mathml-svg",
            "mathml\u00a0svg", "navs", "na"}) {
            new Book().item("id='z' href='z' media-type='x/y' properties='" + words + "'").put("E/z", "")
                .due(due, "properties [" + words + "]", "45 E/p.opf <item id='z'");
        }
    }

    private void navigationsOfTypes() {
        String wrong = "64 E/p.opf <manifest";
        new Book().item("id='z' href='z' media-type='x/y' properties='nav'").put("E/z", "")
            .due(due, "a second one of another type", wrong, "65 E/p.opf <item id='z'");
        new Book().item("id='z' href='z' media-type='x/y' properties='svg nav'").item("id='y' href='y' media-type='x/y' properties='nav'")
            .put("E/z", "").put("E/y", "")
            .due(due, "three", wrong, "65 E/p.opf <item id='z'", "65 E/p.opf <item id='y'");
        new Book().item("id='z' href='' media-type='" + XHTML + "' properties='nav'")
            .due(due, "a second one that counts for nothing", "57 E/p.opf <item id='z'");
        new Book().swap(Book.PACK, "properties='nav'", "properties=' svg nav\tmathml '").due(due, "nav among others");
        new Book().swap(Book.PACK, "properties='nav'", "properties='nav nav'").due(due, "nav twice in one");
        new Book().swap(Book.PACK, "properties='nav'", "properties='Nav'").due(due, "capitals", wrong, "45 E/p.opf <item id='nav'");
        new Book().swap(Book.PACK, "href='nav.xhtml'", "href='nav.xhtml#'").due(due, "one with 59 is one, but isn't looked at",
            "59 E/p.opf <item id='nav'", "77 E/t/page.xhtml <a", "90 E/nav.xhtml");
    }

    private void refsBeside() {
        String ref = "</spine>";
        new Book().swap(Book.PACK, ref, "<itemref idref='pic'/><itemref idref='pic'/></spine>")
            .due(due, "again, of a wrong type", "69 E/p.opf <itemref idref='pic'", "67 E/p.opf <itemref idref='pic'>><itemref idref='pic'",
                "69 E/p.opf <itemref idref='pic'>><itemref idref='pic'");
        new Book().swap(Book.PACK, ref, "<itemref idref='nav'/><itemref idref='nav'/></spine>")
            .due(due, "thrice", "67 E/p.opf <itemref idref='page'>><itemref idref='nav'",
                "67 E/p.opf <itemref idref='page'>><itemref idref='nav'>><itemref idref='nav'");
        new Book().swap(Book.PACK, ref, "<itemref idref='Nav'/></spine>").due(due, "capitals", "66 E/p.opf <itemref idref='Nav'");
        new Book().swap(Book.PACK, ref, "<itemref idref='nav '/></spine>").due(due, "a blank", "66 E/p.opf <itemref idref='nav '");
        new Book().swap(Book.PACK, ref, "<itemref idref=''/><itemref idref=''/></spine>")
            .due(due, "empty ones twice", "66 E/p.opf <itemref idref=''", "66 E/p.opf <itemref idref=''>><itemref idref=''");
        new Book().item("id='z' href='nav.xhtml' media-type='" + XHTML + "'").swap(Book.PACK, ref, "<itemref idref='z'/></spine>")
            .due(due, "another idref of the same path", "61 E/p.opf <item id='z'");
        new Book().swap(Book.PACK, ref, "</spine><x><itemref/></x><itemref/>").swap(Book.PACK, "</manifest>", "<itemref/></manifest>")
            .due(due, "refs of other parts");
        new Book().swap(Book.PACK, ref, "<Itemref/><item/></spine>").due(due, "other elements");
    }

    private void linears() {
        for (String linear : new String[] {"yes", "", "No", "NO", " no", "no ", "non", "n", "auxiliary"}) {
            new Book().swap(Book.PACK, "idref='nav'", "idref='nav' linear='" + linear + "'").swap(Book.PACK, "idref='page'",
                "idref='page' linear='no'").due(due, "linear [" + linear + "]");
        }
        String at = "68 E/p.opf <spine";
        new Book().swap(Book.PACK, "idref='nav'", "idref='nav' linear='no'").swap(Book.PACK, "idref='page'",
            "idref='page' linear='&#110;o'").due(due, "all no", at);
        new Book().swap(Book.PACK, "<itemref idref='nav'/>", "").swap(Book.PACK, "<itemref idref='page'/>", "")
            .due(due, "no refs", at, "73 E/nav.xhtml <a href='t", "73 E/nav.xhtml <a href='#'");
        new Book().swap(Book.PACK, "idref='nav'", "idref='nav' linear='no'").swap(Book.PACK, "idref='page'", "idref='page' linear='no'")
            .swap(Book.PACK, "</spine>", "<itemref/></spine>")
            .due(due, "one with 66 that isn't no", "66 E/p.opf <itemref/");
        new Book().swap(Book.PACK, "idref='nav'", "idref='nav' linear='no'").swap(Book.PACK, "idref='page'", "idref='page' linear='no'")
            .swap(Book.PACK, "</spine>", "<itemref linear='no'/></spine>")
            .due(due, "one with 66 that is no", "66 E/p.opf <itemref linear", at);
        new Book().swap(Book.PACK, "idref='nav'", "idref='nav' linear='no'").swap(Book.PACK, "idref='page'", "idref='page' linear='no'")
            .swap(Book.PACK, "</spine>", "<itemref idref='nav'/></spine>")
            .due(due, "one with 67 that isn't no", "67 E/p.opf <itemref idref='nav'/");
    }

    private void ordersBeside() {
        order("66", new Book().swap(Book.PACK, "idref='nav'", "idref='q'"), "E/t/page.xhtml");
        order("67", new Book().swap(Book.PACK, "idref='page'", "idref='nav'"), "E/nav.xhtml");
        order("69", new Book().swap(Book.PACK, "idref='page'", "idref='pic'"), "E/nav.xhtml E/i/pic.png");
        order("59", new Book().swap(Book.PACK, "href='nav.xhtml'", "href='nav.xhtml#'"), "E/t/page.xhtml");
        order("60", new Book().swap(Book.PACK, "href='nav.xhtml'", "href='gone'"), "E/t/page.xhtml");
        order("61", new Book().swap(Book.PACK, "href='t/page.xhtml'", "href='nav.xhtml'"), "E/nav.xhtml E/nav.xhtml");
        order("58", new Book().swap(Book.PACK, "id='page'", "id='nav'").swap(Book.PACK, "idref='page'", "idref='pic'"),
            "E/nav.xhtml E/i/pic.png");
        order("the first again is no", new Book().swap(Book.PACK, "idref='nav'", "idref='page' linear='no'"), "");
        order("not parsed", new Book().put(Book.PAGE, "<").put(Book.NAV, "<"), "E/nav.xhtml E/t/page.xhtml");
        Zip zip = new Book().zip();
        zip.entries.get(4).flags = 1;
        Desk desk = new Desk();
        desk.check(zip.bytes());
        due.is("order: one that isn't read", desk.order(), "E/nav.xhtml E/t/page.xhtml");
        StringBuilder refs = new StringBuilder();
        Book many = new Book();
        for (int i = 0; i < 60; i++) {
            many.item("id='r" + i + "' href='nav.xhtml' media-type='x/y'");
            refs.append("<itemref idref='r").append(i).append("'/>");
        }
        many.swap(Book.PACK, "</spine>", refs + "</spine>");
        desk.check(many.bytes());
        due.is("order: many", desk.about(4), 62);
        due.is("order: the last of them", desk.order(61), 3);
        due.is("order: behind the last", desk.order(62), EpubDesk.NONE);
    }

    private void straysBeside() {
        new Book().put("x", "").put("y/z", "").due(due, "two", "90 x", "90 y/z");
        new Book().put("META-INF/x/y", "").put("META-INF/ ", "").due(due, "in the container's folder");
        new Book().put("META-INF.x", "").put("E/META-INF/x", "").put("META-IN/x", "")
            .due(due, "not in it", "90 META-INF.x", "90 E/META-INF/x", "90 META-IN/x");
        new Book().put("mimetype2", "").put("Mimetype", "").put("E/mimetype", "")
            .due(due, "no mimetype", "90 mimetype2", "90 Mimetype", "12 Mimetype", "90 E/mimetype");
        new Book().put("E/q.opf", "").due(due, "another package", "90 E/q.opf");
        new Book().item("id='z' media-type='x/y' href='z'").swap(Book.PACK, "id='z' ", "").put("E/z", "")
            .due(due, "an item that counts for nothing", "57 E/p.opf <item media", "90 E/z");
        new Book().put("x.", "").due(due, "not with 10", "10 x.");
        Zip folder = new Book().put("META-INF", "").zip();
        folder.entries.get(6).extra = Zip.latin("/");
        due.is("a name that more would make right", new Desk().report(folder.bytes()), "90@6:0:0");
        String none = "not told";
        new Book().put("x", "").drop(Book.CONTAINER).due(due, none + " with 22", "22 -");
        new Book().put("x", "").swap(Book.CONTAINER, "version='1.0'", "").due(due, none + " with 40", "40 META-INF/container.xml <");
        new Book().put("x", "").swap(Book.CONTAINER, "oebps", "x").due(due, none + " with 41", "41 META-INF/container.xml <");
        due.is(none + " with 30 of the container", new Desk().report(new Book().put("x", "").put(Book.CONTAINER, "<").bytes()), "30@1:1:2");
        due.is(none + " with 30 of the package", new Desk().report(new Book().put("x", "").put(Book.PACK, "<").bytes()), "30@2:1:2");
        Zip zip = new Book().put("x", "").zip();
        zip.entries.get(2).flags = 1;
        due.is(none + " with a package that isn't read", new Desk().report(zip.bytes()), "13@2:0:0");
        zip = new Book().put("x", "").zip();
        zip.entries.get(6).flags = 1;
        due.is("told of one that isn't read", new Desk().report(zip.bytes()), "13@6:0:0 90@6:0:0");
        new Book().put("x", "").swap(Book.PACK, " unique-identifier='uid'", "").due(due, "told with 51", "51 E/p.opf <package", "90 x");
    }

    /** A % that no two hex digits follow is bad, not missing. */
    private void percents() {
        for (String href : new String[] {"%", "%6", "%G1", "%1G", "%g1", "%1g", "%/1", "%1/", "%:1", "./%:1", "%@1", "%1@", "%`1", "%1`",
            "%%61", "% 1", "z%", "z%4", "z%4/4"}) {
            for (String type : new String[] {"x/y", "a1/b", "11", "%41"}) {
                new Book().item("id='z' href='" + href + "' media-type='" + type + "'")
                    .due(due, "href " + href + " ahead of " + type, "59 E/p.opf <item id='z'");
            }
        }
        for (String href : new String[] {"%61", "%6A", "%fF", "%09", "%Aa", "%00", "%7f", "%20"}) {
            new Book().item("id='z' href='" + href + "' media-type='x/y'").due(due, "href " + href, "60 E/p.opf <item id='z'");
        }
    }

    private void endsOfValues() {
        new Book().swap(Book.PACK, "href='i/pic.png'", "href='i/pic.png' x='#'").due(due, "an href ahead of a #");
        new Book().swap(Book.PACK, "href='i/pic.png'", "href='i/pic.png' x='?'").due(due, "an href ahead of a ?");
        new Book().swap(Book.PACK, "href='i/pic.png'", "href='i/pic.png' x=' '").due(due, "an href ahead of a blank");
        new Book().swap(Book.PACK, "href='i/pic.png'", "href='i' x='/pic.png'")
            .due(due, "an href that more would make right", "60 E/p.opf <item id='pic'", "76 E/t/page.xhtml <img", "90 E/i/pic.png");
        new Book().swap(Book.PACK, "properties='nav'", "properties='na' x='v'")
            .due(due, "a property that more would make right", "45 E/p.opf <item id='nav'", "64 E/p.opf <manifest");
        new Book().swap(Book.PACK, "properties='nav'", "properties='nav' x='y'").due(due, "a property ahead of more");
        new Book().swap(Book.PACK, "idref='nav'", "idref='na' x='v'")
            .due(due, "an idref that more would make right", "66 E/p.opf <itemref idref='na'", "73 E/nav.xhtml <a href='#'");
        new Book().swap(Book.PACK, "idref='nav'", "idref='nav' linear='n' x='o'").due(due, "a linear that more would make no");
        new Book().item("id='z' href='z' media-type='image/' x='png' properties='cover-image'").put("E/z", "")
            .due(due, "a type ahead of more", "44 E/p.opf <item id='z'");
    }

    private void firstItems() {
        String first = "<manifest>\n";
        new Book().swap(Book.PACK, first, first + "<item id='y' href='q' media-type='x/y'/>\n<item id='z' href='q' media-type='x/y'/>\n")
            .due(due, "the first item is missing, and again", "60 E/p.opf <item id='y'", "60 E/p.opf <item id='z'",
                "61 E/p.opf <item id='z'");
        new Book().swap(Book.PACK, first, first
            + "<item id='y' href='q' media-type='x/y' fallback='y' media-overlay='y' properties='cover-image x'/>\n")
            .due(due, "the first item has all that is wrong", "60 E/p.opf <item id='y'", "63 E/p.opf <item id='y'",
                "24 E/p.opf <item id='y'", "44 E/p.opf <item id='y'", "45 E/p.opf <item id='y'");
        new Book().swap(Book.PACK, "<spine>\n", "<spine>\n<itemref/>").due(due, "the first ref", "66 E/p.opf <itemref/");
        new Book().swap(Book.PACK, "\n</spine>", "<itemref/></spine>").due(due, "the last ref", "66 E/p.opf <itemref/");
        new Book().swap(Book.PACK, "\n</manifest>", "<item/></manifest>").due(due, "the last item", "57 E/p.opf <item/");
    }

    /** Forty entries, and paths that are none of them. */
    private void fullArchive() {
        Book book = new Book().item("id='z' href='z' media-type='x/y'").swap(Book.PAGE, "../nav.xhtml", "q");
        String[] strays = new String[36];
        for (int i = 0; i < 34; i++) {
            book.put("s" + i, "");
            strays[i] = "90 s" + i;
        }
        strays[34] = "60 E/p.opf <item id='z'";
        strays[35] = "77 E/t/page.xhtml <a";
        due.is("forty entries", book.files.size(), 40);
        book.due(due, "forty entries, most of them strays", strays);
    }
}
