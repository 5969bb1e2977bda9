/** The navigation: 70 to 74, 47, 48, the contents and their labels. */
public final class NavigationTest {
    private static final String OPEN = "<html xmlns='http://www.w3.org/1999/xhtml' xmlns:e='http://www.idpf.org/2007/ops'>\n";
    private static final String TOC = "<nav e:type='toc'><ol><li><a href='#'>x</a></li></ol></nav>\n";

    private final Due due = new Due();

    public static void main(String[] args) {
        NavigationTest test = new NavigationTest();
        test.tocs();
        test.parts();
        test.targets();
        test.labels();
        test.others();
        test.contents();
        test.due.close();
    }

    private Book nav(String inside) {
        return new Book().put(Book.NAV, OPEN + inside + "</html>");
    }

    private Book toc(String inside) {
        return nav("<nav e:type='toc'>" + inside + "</nav>");
    }

    private void tocs() {
        nav("").due(due, "none", "70 E/nav.xhtml <html");
        nav(TOC + TOC).due(due, "two", "70 E/nav.xhtml <html");
        nav("<div>" + TOC + "</div>").due(due, "one deeper");
        nav("<nav e:type=' x\ttoc '><ol><li><a href='#'>x</a></li></ol></nav>").due(due, "one type of several");
        nav("<nav e:type='tocs'><ol/></nav>").due(due, "another type", "70 E/nav.xhtml <html");
        nav("<nav type='toc'><ol/></nav>").due(due, "a type of no namespace", "70 E/nav.xhtml <html");
        nav("<nav xmlns='u' e:type='toc'><ol/></nav>").due(due, "a nav of another namespace", "70 E/nav.xhtml <html");
        nav("<nav/>" + TOC).due(due, "a nav without a type");
        nav(TOC + "<nav e:type='toc'><x/></nav>").due(due, "only the first is looked at", "70 E/nav.xhtml <html");
        new Book().put(Book.NAV, "<x/>").due(due, "not with 75", "75 E/nav.xhtml <x");
    }

    private void parts() {
        toc("").due(due, "nothing", "71 E/nav.xhtml <nav");
        toc("<h1/>").due(due, "a heading alone", "71 E/nav.xhtml <nav");
        for (int i = 1; i <= 6; i++) {
            toc("<h" + i + "/><ol><li><a href='#'>x</a></li></ol>").due(due, "heading " + i);
        }
        toc("<h7/><ol><li><a href='#'>x</a></li></ol>").due(due, "no heading", "71 E/nav.xhtml <nav");
        toc("<h1/><h1/><ol/>").due(due, "two headings", "71 E/nav.xhtml <nav");
        toc("<ol/><h1/>").due(due, "a heading behind", "71 E/nav.xhtml <nav");
        toc("<ol/><ol/>").due(due, "two lists", "71 E/nav.xhtml <nav");
        toc("<ul/>").due(due, "another list", "71 E/nav.xhtml <nav");
        toc("<ol xmlns='u'/>").due(due, "a list of another namespace", "71 E/nav.xhtml <nav");
        toc("<h1 xmlns='u'/><ol/>").due(due, "a heading of another namespace", "71 E/nav.xhtml <nav");
        toc("text<ol>text<li>text<a href='#'>x</a>text</li></ol>").due(due, "texts don't count");
        toc("<ol/>").due(due, "an empty list", "71 E/nav.xhtml <ol");
        toc("<ol><li><a href='#'>x</a></li><p/></ol>").due(due, "more in a list", "71 E/nav.xhtml <ol");
        toc("<ol><li xmlns='u'/></ol>").due(due, "a li of another namespace", "71 E/nav.xhtml <ol");
        String[] wrong = {"", "<p/>", "<span>x</span>", "<a href='#'>x</a><a href='#'>x</a>", "<ol><li><a href='#'>x</a></li></ol>", "<a href='#'>x</a><p/>",
            "<a href='#'>x</a><ol><li><a href='#'>x</a></li></ol><p/>", "<p/><a href='#'>x</a>", "<p/><ol><li><a href='#'>x</a></li></ol>", "<a href='#'>x</a><ol/><ol/>",
            "<span>x</span><p/>", "<a href='#' xmlns='u'>x</a>", "<a href='#'>x</a><ol xmlns='u'/>", "<ol/><a href='#'/>"};
        for (String inside : wrong) {
            toc("<ol><li>" + inside + "</li></ol>").due(due, "li of " + inside, "71 E/nav.xhtml <li");
        }
        toc("<ol><li><a href='#'>x</a><ol/></li><li><p/></li></ol>").due(due, "each is told", "71 E/nav.xhtml <ol/", "71 E/nav.xhtml <li><p");
        toc("<ol><li><span>x</span><ol><li><a href='#'>y</a><ol><li><span/></li></ol></li></ol></li></ol>").due(due, "deeper", "71 E/nav.xhtml <li><span/");
        toc("<ol><li><a href='#'>x<ol/></a></li></ol>").due(due, "what lies in an a");
    }

    private void targets() {
        toc("<ol><li><a>x</a></li></ol>").due(due, "no href", "72 E/nav.xhtml <a");
        toc("<ol><li><a href=''>x</a></li></ol>").due(due, "an empty one", "73 E/nav.xhtml <a", "77 E/nav.xhtml <a");
        toc("<ol><li><a href='http://x'>x</a></li></ol>").due(due, "a far one", "73 E/nav.xhtml <a");
        toc("<ol><li><a href='q'>x</a></li></ol>").due(due, "a missing one", "73 E/nav.xhtml <a", "77 E/nav.xhtml <a");
        toc("<ol><li><a href='i/pic.png'>x</a></li></ol>").due(due, "not in the spine", "73 E/nav.xhtml <a");
        toc("<ol><li><span href='q'>x</span><ol><li><a href='t/page.xhtml'>x</a></li></ol></li></ol>").due(due, "a span's href");
        toc("<ol><li><a href='t/page.xhtml'>x</a></li></ol>").swap(Book.PACK, "idref='page'", "idref='page' linear='no'").due(due, "one aside");
        toc("<ol><li><a href='t/page.xhtml'>x</a></li></ol>").swap(Book.PACK, "<itemref idref='page'/>", "")
            .due(due, "one that no ref has", "73 E/nav.xhtml <a");
        toc("<ol><li><a href='t/page.xhtml'>x</a></li></ol>").swap(Book.PACK, "idref='page'", "idref='nav'")
            .due(due, "another ref again", "67 E/p.opf <itemref idref='nav'>><itemref", "73 E/nav.xhtml <a");
    }

    private void labels() {
        toc("<ol><li><a href='#'/></li></ol>").due(due, "no label", "74 E/nav.xhtml <a");
        toc("<ol><li><a href='#'> \n<b> </b>&#9;</a></li></ol>").due(due, "a blank label", "74 E/nav.xhtml <a");
        toc("<ol><li><a href='#'><b>x</b></a></li></ol>").due(due, "a label deeper");
        toc("<ol><li><a href='#'><img src='i/pic.png' alt='x'/></a></li></ol>").due(due, "values are no label", "74 E/nav.xhtml <a");
        toc("<ol><li><span/><ol><li><a>x</a></li></ol></li></ol>").due(due, "a span's", "72 E/nav.xhtml <a", "74 E/nav.xhtml <span");
    }

    private void others() {
        String flat = "<ol><li><a href='#' e:type='x'>x</a></li></ol></nav>\n";
        String deep = "<ol><li><a href='#' e:type='x'>x</a><ol><li><a href='#' e:type=''>x</a></li></ol></li></ol></nav>\n";
        nav(TOC + "<nav e:type='page-list'>" + flat + "<nav e:type='landmarks'>" + flat).due(due, "right ones");
        nav(TOC + "<nav e:type='page-list'>" + flat + "<nav e:type='page-list'>" + flat).due(due, "two page-lists", "47 E/nav.xhtml <html");
        nav(TOC + "<nav e:type='landmarks'>" + flat + "<nav e:type='landmarks'>" + flat).due(due, "two landmarks", "47 E/nav.xhtml <html");
        nav(TOC + "<nav e:type='page-list landmarks'>" + flat).due(due, "one nav of both");
        nav("<nav e:type='toc page-list landmarks'>" + flat).due(due, "one nav of all");
        nav(TOC + "<nav e:type='page-list'>" + deep).due(due, "a deep page-list", "48 E/nav.xhtml <li>><li");
        nav(TOC + "<nav e:type='landmarks'>" + deep).due(due, "deep landmarks", "48 E/nav.xhtml <li>><li");
        nav(TOC + "<nav e:type='page-list'><ol><li><a href='#'>x</a></li></ol></nav>").due(due, "page-list without a type");
        nav(TOC + "<nav e:type='landmarks'><ol><li><a href='#' type='x'>x</a></li></ol></nav>").due(due, "landmarks without a type", "48 E/nav.xhtml <a>><a");
        nav(TOC + "<nav e:type='landmarks'><ol><li><span>x</span><ol><li><a href='#' e:type='x'>x</a></li></ol></li></ol></nav>")
            .due(due, "a span needs none", "48 E/nav.xhtml <li>><li");
        nav(TOC + "<nav e:type='landmarks'><ol><li><a href='#'>x</a><p/></li></ol></nav>").due(due, "a wrong li isn't looked at", "71 E/nav.xhtml <li>><li");
        nav(TOC + "<nav e:type='page-list'><ol><li><a>x</a></li><li><a href='q'/></li></ol></nav>")
            .due(due, "looked at as the toc is", "72 E/nav.xhtml <a>><a>", "73 E/nav.xhtml <a href='q'", "74 E/nav.xhtml <a href='q'", "77 E/nav.xhtml <a href='q'");
        nav(TOC + "<nav e:type='page-list'><p/></nav>").due(due, "its parts", "71 E/nav.xhtml <nav e:type='page");
        nav(TOC + "<nav e:type='page-list'>" + flat + "<nav e:type='page-list'><p/></nav>").due(due, "only the first", "47 E/nav.xhtml <html");
        nav(TOC + "<nav e:type='landmarks x'>" + deep.replace(" e:type='x'", ""))
            .due(due, "both of landmarks", "48 E/nav.xhtml <li>><li", "48 E/nav.xhtml <a>><a");
    }

    private void contents(String inside, String want) {
        Desk desk = new Desk();
        desk.check(toc(inside).bytes());
        due.is("contents of " + inside, desk.contents(), want);
        due.is("how many", desk.about(5), want.isEmpty() ? 0 : want.split("\\|").length);
    }

    private void contents() {
        contents("<ol><li><a href='#'>x</a></li></ol>", "0>E/nav.xhtml>x");
        contents("<ol><li><a href='t/page.xhtml'> a<b> b </b>\n c</a></li><li><a href='q'>y</a></li><li><a>z</a></li></ol>", "0>E/t/page.xhtml>a b c|0>->y|0>->z");
        contents("<ol><li><a href='i/pic.png'/></li></ol>", "0>E/i/pic.png>");
        contents("<ol><li><span>a</span><ol><li><a href='#'>b</a><ol><li><a href='#'>c</a></li></ol></li><li><a href='#'>d</a></li></ol></li><li><a href='#'>e</a></li></ol>",
            "0>->a|1>E/nav.xhtml>b|2>E/nav.xhtml>c|1>E/nav.xhtml>d|0>E/nav.xhtml>e");
        contents("<ol><li><p/></li><li><a href='#'>x</a><ol/></li></ol>", "0>E/nav.xhtml>x");
        contents("<ol><p/><li><a href='#'>x</a></li></ol>", "");
        contents("<p/><ol><li><a href='#'>x</a></li></ol>", "");
        contents("<ol><li><a href='#'>\u00e9\u20ac<![CDATA[<]]>&amp;</a></li></ol>", "0>E/nav.xhtml>\u00e9\u20ac<&");
        contents("<ol><li><a href='../p.opf/../E/p.opf'>x</a></li></ol>", "0>E/p.opf>x");
        Desk desk = new Desk();
        desk.check(nav(TOC + "<nav e:type='page-list'><ol><li><a href='#'>p</a></li></ol></nav>" + TOC.replace(">x<", ">second<")).bytes());
        due.is("contents are the first toc's alone", desk.contents(), "0>E/nav.xhtml>x");
        desk.check(nav("<nav e:type='page-list'><ol><li><a href='#'>p</a></li></ol></nav>" + TOC).bytes());
        due.is("a page-list ahead", desk.contents(), "0>E/nav.xhtml>x");
    }
}
