/** The navigation: 70 to 74, 47, 48, the contents and their labels. */
public final class NavigationTest {
    private static final String OPEN = "<html xmlns='http://www.w3.org/1999/xhtml' xmlns:e='http://www.idpf.org/2007/ops'>\n";
    private static final String TOC = "<nav e:type='toc'><ol><li><a href='#'>x</a></li></ol></nav>\n";

    private final Due due = new Due();

    public static void main(String[] args) {
        NavigationTest test = new NavigationTest();
        test.tocs();
        test.parts();
        test.targets();
        test.labels();
        test.others();
        test.contents();
        test.typesOfNavs();
        test.notLookedAt();
        test.headings();
        test.listsInLists();
        test.targetsBeside();
        test.labelsOfBlanks();
        test.otherNavsBeside();
        test.deepest();
        test.most();
        test.due.close();
    }

    private Book nav(String inside) {
        return new Book().put(Book.NAV, OPEN + inside + "</html>");
    }

    private Book toc(String inside) {
        return nav("<nav e:type='toc'>" + inside + "</nav>");
    }

    private void tocs() {
        nav("").due(due, "none", "70 E/nav.xhtml <html");
        nav(TOC + TOC).due(due, "two", "70 E/nav.xhtml <html");
        nav("<div>" + TOC + "</div>").due(due, "one deeper");
        nav("<nav e:type=' x\ttoc '><ol><li><a href='#'>x</a></li></ol></nav>").due(due, "one type of several");
        nav("<nav e:type='tocs'><ol/></nav>").due(due, "another type", "70 E/nav.xhtml <html");
        nav("<nav type='toc'><ol/></nav>").due(due, "a type of no namespace", "70 E/nav.xhtml <html");
        nav("<nav xmlns='u' e:type='toc'><ol/></nav>").due(due, "a nav of another namespace", "70 E/nav.xhtml <html");
        nav("<nav/>" + TOC).due(due, "a nav without a type");
        nav(TOC + "<nav e:type='toc'><x/></nav>").due(due, "only the first is looked at", "70 E/nav.xhtml <html");
        new Book().put(Book.NAV, "<x/>").due(due, "not with 75", "75 E/nav.xhtml <x");
    }

    private void parts() {
        toc("").due(due, "nothing", "71 E/nav.xhtml <nav");
        toc("<h1/>").due(due, "a heading alone", "71 E/nav.xhtml <nav");
        for (int i = 1; i <= 6; i++) {
            toc("<h" + i + "/><ol><li><a href='#'>x</a></li></ol>").due(due, "heading " + i);
        }
        toc("<h7/><ol><li><a href='#'>x</a></li></ol>").due(due, "no heading", "71 E/nav.xhtml <nav");
        toc("<h1/><h1/><ol/>").due(due, "two headings", "71 E/nav.xhtml <nav");
        toc("<ol/><h1/>").due(due, "a heading behind", "71 E/nav.xhtml <nav");
        toc("<ol/><ol/>").due(due, "two lists", "71 E/nav.xhtml <nav");
        toc("<ul/>").due(due, "another list", "71 E/nav.xhtml <nav");
        toc("<ol xmlns='u'/>").due(due, "a list of another namespace", "71 E/nav.xhtml <nav");
        toc("<h1 xmlns='u'/><ol/>").due(due, "a heading of another namespace", "71 E/nav.xhtml <nav");
        toc("text<ol>text<li>text<a href='#'>x</a>text</li></ol>").due(due, "texts don't count");
        toc("<ol/>").due(due, "an empty list", "71 E/nav.xhtml <ol");
        toc("<ol><li><a href='#'>x</a></li><p/></ol>").due(due, "more in a list", "71 E/nav.xhtml <ol");
        toc("<ol><li xmlns='u'/></ol>").due(due, "a li of another namespace", "71 E/nav.xhtml <ol");
        String[] wrong = {"", "<p/>", "<span>x</span>", "<a href='#'>x</a><a href='#'>x</a>", "<ol><li><a href='#'>x</a></li></ol>",
            "<a href='#'>x</a><p/>",
            "<a href='#'>x</a><ol><li><a href='#'>x</a></li></ol><p/>", "<p/><a href='#'>x</a>", "<p/><ol><li><a href='#'>x</a></li></ol>",
                "<a href='#'>x</a><ol/><ol/>",
            "<span>x</span><p/>", "<a href='#' xmlns='u'>x</a>", "<a href='#'>x</a><ol xmlns='u'/>", "<ol/><a href='#'/>"};
        for (String inside : wrong) {
            toc("<ol><li>" + inside + "</li></ol>").due(due, "li of " + inside, "71 E/nav.xhtml <li");
        }
        toc("<ol><li><a href='#'>x</a><ol/></li><li><p/></li></ol>")
            .due(due, "each is told", "71 E/nav.xhtml <ol/", "71 E/nav.xhtml <li><p");
        toc("<ol><li><span>x</span><ol><li><a href='#'>y</a><ol><li><span/></li></ol></li></ol></li></ol>")
            .due(due, "deeper", "71 E/nav.xhtml <li><span/");
        toc("<ol><li><a href='#'>x<ol/></a></li></ol>").due(due, "what lies in an a");
    }

    private void targets() {
        toc("<ol><li><a>x</a></li></ol>").due(due, "no href", "72 E/nav.xhtml <a");
        toc("<ol><li><a href=''>x</a></li></ol>").due(due, "an empty one", "73 E/nav.xhtml <a", "77 E/nav.xhtml <a");
        toc("<ol><li><a href='http://x'>x</a></li></ol>").due(due, "a far one", "73 E/nav.xhtml <a");
        toc("<ol><li><a href='q'>x</a></li></ol>").due(due, "a missing one", "73 E/nav.xhtml <a", "77 E/nav.xhtml <a");
        toc("<ol><li><a href='i/pic.png'>x</a></li></ol>").due(due, "not in the spine", "73 E/nav.xhtml <a");
        toc("<ol><li><span href='q'>x</span><ol><li><a href='t/page.xhtml'>x</a></li></ol></li></ol>").due(due, "a span's href");
        toc("<ol><li><a href='t/page.xhtml'>x</a></li></ol>").swap(Book.PACK, "idref='page'", "idref='page' linear='no'")
            .due(due, "one aside");
        toc("<ol><li><a href='t/page.xhtml'>x</a></li></ol>").swap(Book.PACK, "<itemref idref='page'/>", "")
            .due(due, "one that no ref has", "73 E/nav.xhtml <a");
        toc("<ol><li><a href='t/page.xhtml'>x</a></li></ol>").swap(Book.PACK, "idref='page'", "idref='nav'")
            .due(due, "another ref again", "67 E/p.opf <itemref idref='nav'>><itemref", "73 E/nav.xhtml <a");
    }

    private void labels() {
        toc("<ol><li><a href='#'/></li></ol>").due(due, "no label", "74 E/nav.xhtml <a");
        toc("<ol><li><a href='#'> \n<b> </b>&#9;</a></li></ol>").due(due, "a blank label", "74 E/nav.xhtml <a");
        toc("<ol><li><a href='#'><b>x</b></a></li></ol>").due(due, "a label deeper");
        toc("<ol><li><a href='#'><img src='i/pic.png' alt='x'/></a></li></ol>").due(due, "values are no label", "74 E/nav.xhtml <a");
        toc("<ol><li><span/><ol><li><a>x</a></li></ol></li></ol>").due(due, "a span's", "72 E/nav.xhtml <a", "74 E/nav.xhtml <span");
    }

    private void others() {
        String flat = "<ol><li><a href='#' e:type='x'>x</a></li></ol></nav>\n";
        String deep = "<ol><li><a href='#' e:type='x'>x</a><ol><li><a href='#' e:type=''>x</a></li></ol></li></ol></nav>\n";
        nav(TOC + "<nav e:type='page-list'>" + flat + "<nav e:type='landmarks'>" + flat).due(due, "right ones");
        nav(TOC + "<nav e:type='page-list'>" + flat + "<nav e:type='page-list'>" + flat).due(due, "two page-lists", "47 E/nav.xhtml <html");
        nav(TOC + "<nav e:type='landmarks'>" + flat + "<nav e:type='landmarks'>" + flat).due(due, "two landmarks", "47 E/nav.xhtml <html");
        nav(TOC + "<nav e:type='page-list landmarks'>" + flat).due(due, "one nav of both");
        nav("<nav e:type='toc page-list landmarks'>" + flat).due(due, "one nav of all");
        nav(TOC + "<nav e:type='page-list'>" + deep).due(due, "a deep page-list", "48 E/nav.xhtml <li>><li");
        nav(TOC + "<nav e:type='landmarks'>" + deep).due(due, "deep landmarks", "48 E/nav.xhtml <li>><li");
        nav(TOC + "<nav e:type='page-list'><ol><li><a href='#'>x</a></li></ol></nav>").due(due, "page-list without a type");
        nav(TOC + "<nav e:type='landmarks'><ol><li><a href='#' type='x'>x</a></li></ol></nav>")
            .due(due, "landmarks without a type", "48 E/nav.xhtml <a>><a");
        nav(TOC + "<nav e:type='landmarks'><ol><li><span>x</span><ol><li><a href='#' e:type='x'>x</a></li></ol></li></ol></nav>")
            .due(due, "a span needs none", "48 E/nav.xhtml <li>><li");
        nav(TOC + "<nav e:type='landmarks'><ol><li><a href='#'>x</a><p/></li></ol></nav>")
            .due(due, "a wrong li isn't looked at", "71 E/nav.xhtml <li>><li");
        nav(TOC + "<nav e:type='page-list'><ol><li><a>x</a></li><li><a href='q'/></li></ol></nav>")
            .due(due, "looked at as the toc is", "72 E/nav.xhtml <a>><a>", "73 E/nav.xhtml <a href='q'", "74 E/nav.xhtml <a href='q'",
                "77 E/nav.xhtml <a href='q'");
        nav(TOC + "<nav e:type='page-list'><p/></nav>").due(due, "its parts", "71 E/nav.xhtml <nav e:type='page");
        nav(TOC + "<nav e:type='page-list'>" + flat + "<nav e:type='page-list'><p/></nav>")
            .due(due, "only the first", "47 E/nav.xhtml <html");
        nav(TOC + "<nav e:type='landmarks x'>" + deep.replace(" e:type='x'", ""))
            .due(due, "both of landmarks", "48 E/nav.xhtml <li>><li", "48 E/nav.xhtml <a>><a");
    }

    private void contents(String inside, String want) {
        Desk desk = new Desk();
        desk.check(toc(inside).bytes());
        due.is("contents of " + inside, desk.contents(), want);
        due.is("how many", desk.about(5), want.isEmpty() ? 0 : want.split("\\|").length);
    }

    private void contents() {
        contents("<ol><li><a href='#'>x</a></li></ol>", "0>E/nav.xhtml>x");
        contents("<ol><li><a href='t/page.xhtml'> a<b> b </b>\n c</a></li><li><a href='q'>y</a></li><li><a>z</a></li></ol>",
            "0>E/t/page.xhtml>a b c|0>->y|0>->z");
        contents("<ol><li><a href='i/pic.png'/></li></ol>", "0>E/i/pic.png>");
        contents("<ol><li><span>a</span><ol><li><a href='#'>b</a><ol><li><a href='#'>c</a></li></ol></li><li><a href='#'>d</a></li></ol></li><li><a href='#'>e</a></li></ol>",
            "0>->a|1>E/nav.xhtml>b|2>E/nav.xhtml>c|1>E/nav.xhtml>d|0>E/nav.xhtml>e");
        contents("<ol><li><p/></li><li><a href='#'>x</a><ol/></li></ol>", "0>E/nav.xhtml>x");
        contents("<ol><p/><li><a href='#'>x</a></li></ol>", "");
        contents("<p/><ol><li><a href='#'>x</a></li></ol>", "");
        contents("<ol><li><a href='#'>\u00e9\u20ac<![CDATA[<]]>&amp;</a></li></ol>", "0>E/nav.xhtml>\u00e9\u20ac<&");
        contents("<ol><li><a href='../p.opf/../E/p.opf'>x</a></li></ol>", "0>E/p.opf>x");
        Desk desk = new Desk();
        desk.check(nav(TOC + "<nav e:type='page-list'><ol><li><a href='#'>p</a></li></ol></nav>" + TOC.replace(">x<", ">second<")).bytes());
        due.is("contents are the first toc's alone", desk.contents(), "0>E/nav.xhtml>x");
        desk.check(nav("<nav e:type='page-list'><ol><li><a href='#'>p</a></li></ol></nav>" + TOC).bytes());
        due.is("a page-list ahead", desk.contents(), "0>E/nav.xhtml>x");
    }

    private void typesOfNavs() {
        String list = "<ol><li><a href='#'>x</a></li></ol></nav>";
        for (String types : new String[] {"toc", " toc ", "x toc", "toc x", "x\ttoc\ny", "toc toc", "&#9;toc&#10;", "t&#111;c"}) {
            nav("<nav e:type='" + types + "'>" + list).due(due, "types [" + types + "]");
        }
        for (String types : new String[] {"", "TOC", "to", "tocs", "x-toc", "toc,x", "toc\u00a0x"}) {
            nav("<nav e:type='" + types + "'>" + list).due(due, "types [" + types + "]", "70 E/nav.xhtml <html");
        }
        nav("<Nav e:type='toc'>" + list.replace("nav", "Nav")).due(due, "another element", "70 E/nav.xhtml <html");
        nav("<nav e:type='toc'><ol><li><a href='#'>x<nav e:type='toc'/></a></li></ol></nav>")
            .due(due, "one in another", "70 E/nav.xhtml <html");
        nav(TOC + TOC + TOC).due(due, "three", "70 E/nav.xhtml <html");
        nav("<x:nav xmlns:x='http://www.w3.org/1999/xhtml' e:type='toc'>" + list.replace("</nav>", "</x:nav>")).due(due, "by a prefix");
        nav("<nav e:type='page-list landmarks'><p/></nav>").due(due, "none, but others", "70 E/nav.xhtml <html", "71 E/nav.xhtml <nav");
    }

    /** Without a navigation that can be looked at there are no contents, and none of 70 to 74. */
    private void notLookedAt() {
        String bare = OPEN + "</html>";
        new Book().put(Book.NAV, bare).swap(Book.PACK, " properties='nav'", "").due(due, "no navigation", "64 E/p.opf <manifest");
        new Book().put(Book.NAV, bare).swap(Book.PACK, "application/xhtml+xml' properties", "application/xml' properties")
            .due(due, "65", "65 E/p.opf <item id='nav'", "69 E/p.opf <itemref idref='nav'");
        new Book().put(Book.NAV, "<x/>").due(due, "75", "75 E/nav.xhtml <x");
        new Book().put(Book.NAV, bare).swap(Book.PACK, "href='nav.xhtml'", "href='nav.xhtml#'")
            .due(due, "59", "59 E/p.opf <item id='nav'", "77 E/t/page.xhtml <a", "90 E/nav.xhtml");
        due.is("not parsed", new Desk().report(new Book().put(Book.NAV, OPEN).bytes()), "30@3:2:1");
        Zip zip = new Book().put(Book.NAV, bare).zip();
        zip.entries.get(3).flags = 1;
        due.is("not read", new Desk().report(zip.bytes()), "13@3:0:0");
        new Book().put(Book.NAV, bare).item("id='z' href='nav.xhtml' media-type='application/xhtml+xml'").swap(Book.PACK,
            "application/xhtml+xml' properties", "application/xml' properties")
            .due(due, "65, though another item of its path is a page", "65 E/p.opf <item id='nav'", "69 E/p.opf <itemref idref='nav'",
                "61 E/p.opf <item id='z'");
        new Book().put(Book.PAGE, OPEN + "</html>").swap(Book.PACK, "id='page'", "id='page' properties='nav'")
            .due(due, "a second navigation", "64 E/p.opf <manifest");
    }

    private void headings() {
        String list = "<ol><li><a href='#'>x</a></li></ol>";
        String at = "71 E/nav.xhtml <nav";
        for (String wrong : new String[] {"<h0/>" + list, "<h7/>" + list, "<h/>" + list, "<h10/>" + list, "<H1/>" + list, "<p/>" + list,
            list + "<p/>", list + list, "<h1/>" + list + "<h1/>", "<h1/><h2/>" + list,
            "<ol/><p/>", "<x xmlns='u'/>" + list, list + "<x xmlns='u'/>", "<h1/>" + list + list, "<h1>" + list + "</h1>", "<div>" + list
                + "</div>", "<li/>", "<Ol/>"}) {
            toc(wrong).due(due, "nav of " + wrong, at);
        }
        toc("<h1><b>x</b><ol/></h1>" + list).due(due, "what lies in a heading");
        toc("x<!-- c --><h6/>y" + list + "z<?p?>").due(due, "texts around");
    }

    private void listsInLists() {
        String a = "<a href='#'>x</a>";
        toc("<ol><li>" + a + "</li><li>" + a + "<ol><li>" + a + "</li><li><span>y</span><ol><li>" + a + "</li></ol></li></ol></li></ol>")
            .due(due, "right ones");
        toc("<ol><li>" + a + "<ol><p/></ol></li></ol>").due(due, "a wrong ol in a right li", "71 E/nav.xhtml <ol><p");
        toc("<ol><li>" + a + "<ol><li/></ol></li></ol>").due(due, "a wrong li in a right ol", "71 E/nav.xhtml <li/");
        toc("<ol><p/><li/><li><span/></li></ol>").due(due, "what is in a wrong ol isn't looked at", "71 E/nav.xhtml <ol");
        toc("<ol><li><p/><a/><ol/></li></ol>").due(due, "what is in a wrong li isn't looked at", "71 E/nav.xhtml <li");
        toc("<ol><li><span/><ol/></li></ol>").due(due, "an empty ol behind a span", "71 E/nav.xhtml <ol/", "74 E/nav.xhtml <span");
        toc("<ol><li>" + a + "</li><li/><li>" + a + "</li></ol>").due(due, "a wrong one among right ones", "71 E/nav.xhtml <li/");
        nav("<nav e:type='toc'><ol><li/></ol></nav>" + a).due(due, "an a right behind an empty li", "71 E/nav.xhtml <li");
        nav("<nav e:type='toc'><ol><li/></ol></nav><span>x</span><ol><li>" + a + "</li></ol>")
            .due(due, "a span right behind an empty li", "71 E/nav.xhtml <li");
        nav("<nav e:type='toc'><ol/></nav><li>" + a + "</li>").due(due, "a li right behind an empty ol", "71 E/nav.xhtml <ol");
        nav("<nav e:type='toc'/><ol><li>" + a + "</li></ol>").due(due, "an ol right behind an empty nav", "71 E/nav.xhtml <nav");
        nav("<nav e:type='toc'><h1/></nav><ol><li>" + a + "</li></ol>").due(due, "an ol right behind a nav", "71 E/nav.xhtml <nav");
        nav("<nav e:type='toc'><ol><li><span>x</span></li></ol></nav><ol><li>" + a + "</li></ol>")
            .due(due, "an ol right behind a span's li", "71 E/nav.xhtml <li");
        toc("<ol><Li>" + a + "</Li></ol>").due(due, "capitals", "71 E/nav.xhtml <ol");
        toc("<ol><li><A href='#'>x</A></li></ol>").due(due, "an A", "71 E/nav.xhtml <li");
    }

    private void targetsBeside() {
        String at = "73 E/nav.xhtml <a";
        Book book = toc("<ol><li><a href='t/page.xhtml'>x</a></li></ol>");
        book.swap(Book.PACK, "idref='page'", "idref='page' linear='no'").due(due, "a ref that is aside");
        toc("<ol><li><a href='t/page.xhtml'>x</a></li></ol>").swap(Book.PACK, "</spine>", "<itemref idref='page'/></spine>")
            .due(due, "a ref with 67", "67 E/p.opf <itemref idref='page'>><itemref");
        toc("<ol><li><a href='i/pic.png'>x</a></li></ol>").swap(Book.PACK, "</spine>", "<itemref idref='pic'/></spine>")
            .due(due, "a ref with 69", "69 E/p.opf <itemref idref='pic'");
        toc("<ol><li><a href='i/pic.png'>x</a></li></ol>").item("id='z' href='i/pic.png' media-type='application/xhtml+xml'")
            .put(Book.PICTURE, "<html xmlns='http://www.w3.org/1999/xhtml'/>").swap(Book.PACK, "</spine>", "<itemref idref='z'/></spine>")
            .due(due, "a ref's item that isn't the first of its path", "61 E/p.opf <item id='z'");
        toc("<ol><li><a href='t/page.xhtml'>x</a></li></ol>").swap(Book.PACK, "href='t/page.xhtml'", "href='t/page.xhtml#'")
            .due(due, "a ref whose item has 59", at, "77 E/nav.xhtml <a", "59 E/p.opf <item id='page'", "90 E/t/page.xhtml");
        toc("<ol><li><a href='t/page.xhtml'>x</a></li></ol>").drop(Book.PAGE)
            .due(due, "a ref whose item has 60", at, "77 E/nav.xhtml <a", "60 E/p.opf <item id='page'");
        toc("<ol><li><a href='t/page.xhtml'>x</a></li></ol>").swap(Book.PACK, "id='page' ", "")
            .due(due, "a ref whose item has 57", at, "77 E/nav.xhtml <a", "57 E/p.opf <item href", "66 E/p.opf <itemref idref='page'",
            "90 E/t/page.xhtml");
        toc("<ol><li><a href='mimetype'>x</a></li></ol>").due(due, "a missing one", at, "77 E/nav.xhtml <a");
        toc("<ol><li><a href='../mimetype'>x</a></li></ol>").due(due, "one that is no item's", at, "77 E/nav.xhtml <a");
        toc("<ol><li><a href='t/page.xhtml?x'>x</a></li></ol>").due(due, "a bad one", at, "77 E/nav.xhtml <a");
        toc("<ol><li><a href='x:t/page.xhtml'>x</a></li></ol>").due(due, "a bad one that is no link", at);
        toc("<ol><li><a href='#'>x</a></li></ol>").swap(Book.PACK, "<itemref idref='nav'/>", "")
            .due(due, "the navigation itself, which no ref has", at);
        toc("<ol><li><a e:href='#'>x</a></li></ol>").due(due, "an href of a namespace", "72 E/nav.xhtml <a");
        toc("<ol><li><a/></li></ol>").due(due, "nothing at all", "72 E/nav.xhtml <a", "74 E/nav.xhtml <a");
        contents("<ol><li><a href='x:y'>a</a></li><li><a href=''>b</a></li><li><a href='../mimetype'>c</a></li><li><a href='i/pic.png#x'>d</a></li></ol>", "0>->a|0>->b|0>mimetype>c|0>E/i/pic.png>d");
    }

    private void labelsOfBlanks() {
        String[][] pairs = {{"x", "x"}, {" x ", "x"}, {"\t\n\r x\t\n\r ", "x"}, {"a  b", "a b"}, {"ab  cd\n\nef ", "ab cd ef"},
            {"a\r\n\t b", "a b"}, {"a&#9;&#10;&#13;&#32;b", "a b"}, {"<b> a</b><b>b </b>", "ab"}, {"<b>a </b><b> b</b>", "a b"},
            {"a<b/>b", "ab"}, {"a<b> </b>b", "a b"}, {"<b><i><u>a</u></i></b>b", "ab"}, {"a<img src='i/pic.png' alt='no'/>b", "ab"},
                {"a<!-- no --><?no no?>b", "ab"}, {"<![CDATA[ a ]]>b", "a b"}, {"\u00a0", "\u00a0"},
            {" \u00a0 ", "\u00a0"}, {"\u3000a", "\u3000a"}, {"x<x xmlns='u'>y</x>", "xy"}, {"1<b>2<i>3</i>4</b>5", "12345"}};
        for (String[] pair : pairs) {
            Desk desk = new Desk();
            due.is("label " + pair[0] + ": messages", desk.check(toc("<ol><li><a href='#'>" + pair[0] + "</a></li></ol>").bytes()), 0);
            due.is("label " + pair[0], desk.label(0), pair[1]);
            due.is("label " + pair[0] + ": its length", desk.contents(0, 2), Zip.utf8(pair[1]).length);
            desk.check(toc("<ol><li>no<span>" + pair[0] + "</span>no<ol><li><a href='#'>y</a></li></ol>no</li></ol>").bytes());
            due.is("span " + pair[0], desk.label(0), pair[1]);
        }
        for (String empty : new String[] {"", " ", "\t\n\r ", "&#9;&#10;&#13;&#32;", "<b/>", "<b> </b> <i/>", "<![CDATA[]]>", "<!-- x -->",
            "<img src='i/pic.png' alt='x'/>"}) {
            toc("<ol><li><a href='#'>" + empty + "</a></li></ol>").due(due, "an empty label, " + empty, "74 E/nav.xhtml <a");
            toc("<ol><li><span>" + empty + "</span><ol><li><a href='#'>y</a></li></ol></li></ol>")
                .due(due, "an empty span, " + empty, "74 E/nav.xhtml <span");
        }
        contents("<ol><li><a href='#'/></li><li><a href='#'>x</a></li><li><a href='#'> </a></li></ol>",
            "0>E/nav.xhtml>|0>E/nav.xhtml>x|0>E/nav.xhtml>");
        String wide = "\ud83d\ude00".repeat(1300);
        Desk desk = new Desk();
        desk.check(toc("<ol><li><a href='#'>" + wide + "</a></li><li><a href='#'>z</a></li></ol>").bytes());
        due.is("a long label", desk.contents(0, 2), 5200);
        due.is("its last byte", desk.label(0, 5199), 0x80);
        due.is("behind it", desk.label(0, 5200), EpubDesk.NONE);
        due.is("the label behind it", desk.label(1, 0), 'z');
    }

    private void otherNavsBeside() {
        String flat = "<ol><li><a href='#' e:type='x'>x</a></li></ol></nav>\n";
        nav(TOC + "<nav e:type='page-list'>" + flat + "<nav e:type='page-list'>" + flat + "<nav e:type='landmarks'>" + flat
            + "<nav e:type='landmarks'>" + flat).due(due, "two of both", "47 E/nav.xhtml <html");
        nav(TOC + "<nav e:type='page-list landmarks'>" + flat + "<nav e:type='landmarks'>" + flat)
            .due(due, "one that is both, and one", "47 E/nav.xhtml <html");
        nav("<nav e:type='toc page-list'>" + flat + "<nav e:type='page-list'>" + flat)
            .due(due, "a toc that is a page-list, and one", "47 E/nav.xhtml <html");
        nav("<nav e:type='toc'>" + flat + "<nav e:type='toc page-list'>" + flat)
            .due(due, "two tocs, one a page-list", "70 E/nav.xhtml <html");
        nav(TOC + "<x:nav xmlns:x='u' e:type='page-list'/><nav e:type='page-list'>" + flat
            + "<nav type='page-list'/><nav e:type='page-lists'/><nav e:type='Page-list'/>").due(due, "others are none");
        for (String role : new String[] {"page-list", "landmarks"}) {
            String open = TOC + "<nav e:type='" + role + "'>";
            nav(open + "</nav>").due(due, role + " of nothing", "71 E/nav.xhtml <nav>><nav");
            nav(open + "<h2/>" + flat).due(due, role + " with a heading");
            nav(open + "<ol><p/></ol></nav>").due(due, role + " with a wrong ol", "71 E/nav.xhtml <ol><p");
            nav(open + "<ol><li><span>x</span></li></ol></nav>").due(due, role + " with a wrong li", "71 E/nav.xhtml <li><span");
            nav(open + "<ol><li><a href='#' e:type=''>x</a><ol><p/></ol></li></ol></nav>")
                .due(due, role + ": a right li with a wrong ol", "48 E/nav.xhtml <li>><li", "71 E/nav.xhtml <ol><p");
            nav(open + "<ol><li><a href='#' e:type=''>x</a><ol/><p/></li></ol></nav>")
                .due(due, role + ": a wrong li with an ol", "71 E/nav.xhtml <li>><li");
            nav(open + "<ol><li><a href='#' e:type=''>x</a><ol><li><a href='#' e:type=''>x</a><ol><li><a href='#' e:type=''>x</a></li></ol></li></ol></li></ol></nav>")
                .due(due, role + " three deep", "48 E/nav.xhtml <li>><li", "48 E/nav.xhtml <li>><li>><li");
            nav(open + "<ol><li><a e:type=''/></li></ol></nav>")
                .due(due, role + ": 72 and 74", "72 E/nav.xhtml <a>><a", "74 E/nav.xhtml <a>><a");
            nav(open + "<ol><li><a href='i/pic.png' e:type=''>x</a></li></ol></nav>").due(due, role + ": 73", "73 E/nav.xhtml <a>><a");
            nav(open + flat + "<nav e:type='" + role + "'><p/></nav>")
                .due(due, role + ": the second isn't looked at", "47 E/nav.xhtml <html");
            Desk desk = new Desk();
            desk.check(nav("<nav e:type='" + role + "'>" + flat + TOC.replace(">x<", ">toc<")).bytes());
            due.is(role + " is no contents", desk.contents(), "0>E/nav.xhtml>toc");
        }
        nav(TOC + "<nav e:type='landmarks'><ol><li><a href='#'>x</a></li><li><a href='#' e:type=''>x</a></li></ol></nav>")
            .due(due, "an a without the attribute, and one with an empty one", "48 E/nav.xhtml <a>><a");
        nav(TOC + "<nav e:type='landmarks'><ol><li><a/></li></ol></nav>")
            .due(due, "an a without anything", "48 E/nav.xhtml <a>><a", "72 E/nav.xhtml <a>><a", "74 E/nav.xhtml <a>><a");
        nav(TOC + "<nav e:type='landmarks'><ol><li><a xmlns:q='u' q:type='x' href='#'>x</a></li></ol></nav>")
            .due(due, "one of another namespace", "48 E/nav.xhtml <a>><a");
        nav("<nav e:type='toc'><ol><li><a href='#'>x</a><ol><li><a href='#'>x</a></li></ol></li></ol></nav>")
            .due(due, "a toc may be deep, and needs no types");
    }

    /** As deep as elements may lie: eight li around one another. */
    private void deepest() {
        StringBuilder open = new StringBuilder();
        StringBuilder want = new StringBuilder();
        for (int i = 0; i < 8; i++) {
            open.append("<ol><li><a href='#'>").append(i).append("</a>");
            want.append(i == 0 ? "" : "|").append(i).append(">E/nav.xhtml>").append(i);
        }
        contents(open + "</li></ol>".repeat(8), want.toString());
        Desk desk = new Desk();
        desk.check(toc(open + "<ol><li/></ol>" + "</li></ol>".repeat(8)).bytes());
        due.is("one deeper", desk.about(5), 8);
        due.is("its li is wrong", desk.message(0, 0), 71);
        desk.check(toc("<ol><li><a href='#'>x</a>" + open + "</li></ol>".repeat(8) + "</li></ol>").bytes());
        due.is("too deep", desk.message(0, 0), 31);
    }

    /** As many li as there may be elements: html, nav, ol and 148 li with an a each. */
    private void most() {
        StringBuilder inside = new StringBuilder("<ol>");
        for (int i = 0; i < 148; i++) {
            inside.append("<li><a href='#'>").append((char) ('a' + i % 26)).append("</a></li>");
        }
        Desk desk = new Desk();
        due.is("148 li", desk.check(toc(inside + "</ol>").bytes()), 0);
        due.is("contents of all", desk.about(5), 148);
        due.is("the last one's label", desk.label(147, 0), 'a' + 147 % 26);
        due.is("the last one's target", desk.contents(147, 1), 3);
        due.is("behind the last", desk.contents(148, 0), -3);
        due.is("149 li", desk.check(toc(inside + "<li><a href='#'>x</a></li></ol>").bytes()), 1);
        due.is("149 li: too much", desk.message(0, 0), 31);
        due.is("no contents then", desk.about(5), 0);
    }
}
