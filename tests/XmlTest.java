import java.io.ByteArrayOutputStream;
import java.nio.charset.StandardCharsets;

/** XML: what is well formed, where it is not, how much is too much, namespaces, values, texts and places. */
public final class XmlTest {
    private final Due due = new Due();
    private final Xml xml = new Xml(due);

    public static void main(String[] args) {
        XmlTest test = new XmlTest();
        test.declarations();
        test.prologs();
        test.commentsAndInstructions();
        test.elements();
        test.attributes();
        test.references();
        test.texts();
        test.chars();
        test.namespaces();
        test.limits();
        test.places();
        test.values();
        test.neighbours();
        test.due.close();
    }

    private void right(String text) {
        xml.right(text);
    }

    private void wrong(String text) {
        xml.told(30, text);
    }

    private void told(int code, String text) {
        xml.told(code, text);
    }

    private void declarations() {
        right("<?xml version=\"1.0\"?><a/>");
        right("<?xml version='1.0'?><a/>");
        right("<?xml\n\tversion\r=\n'1.0'  encoding = \"UTF-8\" ?><a/>");
        right("<?xml version='1.0' encoding='uTf-8'?>\n<a/>");
        right("<?xml version='1.0' ?><a/>");
        right("\ufeff<?xml version='1.0'?><a/>");
        right("\ufeff<a/>");
        wrong("<?xml \u00a4encoding='utf-8'?><a/>");
        wrong("<?xml version='1.\u00a41'?><a/>");
        wrong("<?xml version='1.0\u00a4\"?><a/>");
        wrong("<?xml version='1.0'\u00a4encoding='utf-8'?><a/>");
        wrong("<?xml version='1.0' encoding='utf-\u00a416'?><a/>");
        wrong("<?xml version='1.0' encoding='utf-8' \u00a4standalone='yes'?><a/>");
        wrong("<?xml version='1.0' \u00a4standalone='yes'?><a/>");
        wrong("<?xml version='1.0' ?\u00a4 ><a/>");
        wrong("<?xml version='1.0' e\u00a4?><a/>");
        wrong("<?xml version \u00a4'1.0'?><a/>");
        wrong("<?xml version=\u00a41.0?><a/>");
        wrong("<?xml\u00a4?><a/>");
        wrong("<?xml\u00a4");
        wrong("<?xml \u00a4");
        wrong(" <?xml\u00a4 version='1.0'?><a/>");
    }

    private void prologs() {
        wrong("\u00a4");
        wrong(" \n \u00a4");
        wrong("\u00a4x");
        wrong("<\u00a4");
        wrong("<\u00a41/>");
        wrong("<\u00a4/a>");
        wrong("\u00a4&amp;<a/>");
        right("<!-- c --><?p i?>\n<!DOCTYPE html>\r\n<!-- c --><a/>\n<!-- c --><?p?> ");
        right("<!DOCTYPE\n\nhtml\n><a/>");
        wrong("<!DOCTYPE\u00a4><a/>");
        wrong("<!DOCTYPE \u00a4><a/>");
        wrong("<!DOCTYPE a\u00a4:b><a/>");
        wrong("<!DOCTYPE html \u00a4PUBLIC 'x'><a/>");
        wrong("<!DOCTYP\u00a4 a><a/>");
        wrong("<!DOCTYPE a><!\u00a4DOCTYPE a><a/>");
        wrong("<!\u00a4d><a/>");
        wrong("<!\u00a4[CDATA[]]><a/>");
        wrong("<a/><!\u00a4DOCTYPE a>");
        wrong("<a/><\u00a4b/>");
        wrong("<a/>\u00a4x");
        wrong("<a/><\u00a4/a>");
        wrong("<a/><!\u00a4[CDATA[]]>");
        wrong("<a></a>\u00a4&amp;");
    }

    private void commentsAndInstructions() {
        right("<a><!----><!-- - -><a>&<' --></a>");
        wrong("<a><!-\u00a4 --></a>");
        wrong("<a><!-- --\u00a4 --></a>");
        wrong("<a><!-- --\u00a4-></a>");
        wrong("<a><!-- ->\u00a4");
        wrong("<a><!--->\u00a4");
        right("<a><?p?><?p ?><?p ??><?p x?y>?><?xmlx?><?xm l?></a>");
        wrong("<a><?xml\u00a4?></a>");
        wrong("<a><?XmL\u00a4 ?></a>");
        wrong("<a><?\u00a4 p?></a>");
        wrong("<a><?p\u00a4:q?></a>");
        wrong("<a><?p?\u00a4 ></a>");
        wrong("<a><?p ?\u00a4");
        wrong("<?p \u00a4");
        wrong("<?p\u00a4");
        wrong("<?\u00a41?><a/>");
    }

    private void elements() {
        right("<a></a>");
        right("<a ></a\n>");
        right("<a />");
        right("<_.-1\u00e9/>");
        right("<a><b><c/></b></a>");
        wrong("<a\u00a4");
        wrong("<a>\u00a4");
        wrong("<a/\u00a4 >");
        wrong("<a /\u00a4/>");
        wrong("<a><\u00a4 /a>");
        wrong("<a></\u00a4 a>");
        wrong("<a>\u00a4</b>");
        wrong("<a>\u00a4</aa>");
        wrong("<aa>\u00a4</a>");
        wrong("<a>\u00a4</A>");
        wrong("<a>\u00a4</b$>");
        wrong("<a></a\u00a4$>");
        wrong("<a></a \u00a4b>");
        wrong("<a></a\u00a4");
        wrong("<a>\u00a4</b");
        wrong("<a>\u00a4</b:c>");
        wrong("<a></b:\u00a4>");
        wrong("<a:\u00a4/>");
        wrong("<a:\u00a41/>");
        wrong("<a:b\u00a4:c/>");
        wrong("<\u00a4:a/>");
        wrong("<a>\u00a4</a:a>");
        wrong("<a\u00a4<b/>");
    }

    private void attributes() {
        right("<a b='1' c=\"2\"\n\td = '3'/>");
        right("<a b='\"' c=\"'>\"/>");
        wrong("<a b\u00a4/>");
        wrong("<a b \u00a4c='1'/>");
        wrong("<a b=\u00a41/>");
        wrong("<a b=\u00a4");
        wrong("<a b='1'\u00a4c='2'/>");
        wrong("<a b='\u00a4<'/>");
        wrong("<a b='x\u00a4");
        wrong("<a \u00a41='x'/>");
        wrong("<a b:\u00a4='x'/>");
        wrong("<a b:c\u00a4:d='x'/>");
        wrong("<r>\u00a4<a b='1' b='2'/></r>");
        wrong("<r>\u00a4<a b='1' c='' b='1'></a></r>");
        wrong("<r>\u00a4<a b='' b='' /x></r>");
        wrong("<r><a b='' b='' \u00a4&></r>");
        right("<a b='' B=''/>");
    }

    private void references() {
        right("<a>&amp;&lt;&gt;&quot;&apos;&#65;&#x41;&#xfffd;&#0000000000000000065;&#x10FFFF;&#9;</a>");
        right("<a b='&amp;&lt;&gt;&quot;&apos;&#65;&#x41;'/>");
        for (String bad : new String[] {"&", "&;", "&a;", "&am;", "&amp", "& amp;", "&AMP;", "&#;", "&#x;", "&#X41;", "&#a;", "&#xg;",
            "&#0;", "&#8;", "&#11;", "&#31;", "&#55296;", "&#xDFFF;", "&#65534;", "&#xFFFF;", "&#1114112;", "&#x110000;",
            "&#99999999999999999999;", "&#65", "&#65 ;", "&nbsp;", "&ampx;", "&quott;", "&#-1;", "&<"}) {
            wrong("<a>x\u00a4" + bad + "</a>");
            wrong("<a b='x\u00a4" + bad + "'/>");
        }
        wrong("<a>\u00a4&am");
        wrong("<a>\u00a4&#1");
    }

    private void texts() {
        right("<a>x ] ]] ]>x>]]&gt; \" ' </a>");
        wrong("<a>]]\u00a4></a>");
        wrong("<a>]]]\u00a4></a>");
        right("<a>]<!-- -->]></a>");
        right("<a>]]<?p?>></a>");
        right("<a>]&#93;></a>");
        right("<a><![CDATA[<&>]] ]>]]]></a>");
        right("<a><![CDATA[]]><![CDATA[]]]]></a>");
        wrong("<a><![CDATA[]]>]]\u00a4></a>");
        wrong("<a><![\u00a4cdata[]]></a>");
        wrong("<a><![CDATA\u00a4 []]></a>");
        wrong("<a><![CDATA[x]]\u00a4");
        wrong("<a><!\u00a4DOCTYPE a></a>");
    }

    private void chars() {
        right("<a>\t\n\r \u007f\u0080\ud7ff\ue000\ufffd\ud800\udc00\udbff\udfff</a>");
        right("<\u00aa\ud800\udc00/>");
        right("<\u0080/>");
        wrong("<a>\u00a4\0</a>");
        wrong("<a>\u00a4\u0008</a>");
        wrong("<a>\u00a4\u001f</a>");
        wrong("<a>x\u00e9\u00a4\ufffe</a>");
        wrong("<a>\u00a4\uffff</a>");
        wrong("<a b='\u00a4\uffff'/>");
        wrong("<a><!-- \u00a4\u0001 --></a>");
        wrong("<a><?p \u00a4\u0001 ?></a>");
        wrong("<a><![CDATA[\u00a4\u0001]]></a>");
        wrong("<a\u00a4\u007f/>");
        wrong("\u00a4\u0001");
        String[] bad = {"ff", "80", "c3", "c080", "c1bf", "e28220", "e08080", "eda080", "f08080", "f4908080", "f5808080", "f8", "e08181",
            "e09fbf", "f0808181", "f08fbfbf", "c181"};
        for (String hex : bad) {
            ByteArrayOutputStream out = new ByteArrayOutputStream();
            out.writeBytes("<a>\u00e9".getBytes(StandardCharsets.UTF_8));
            for (int i = 0; i < hex.length(); i += 2) {
                out.write(Integer.parseInt(hex.substring(i, i + 2), 16));
            }
            due.is("bytes " + hex, Xml.report(out.toByteArray()), "30@1:1:5");
            out.writeBytes("</a>".getBytes(StandardCharsets.UTF_8));
            due.is("bytes " + hex + " amid", Xml.report(out.toByteArray()), "30@1:1:5");
        }
        wrong("<a/>\u00a4\ufeff");
        right("<a>\ufeff</a>");
    }

    private void namespaces() {
        right("<p:a xmlns:p='u' p:b='' b='' xmlns='v'/>");
        right("<a xml:lang='x' lang='y'/>");
        right("<a xmlns:xml='http://www.w3.org/XML/1998/namespace'/>");
        right("<a xmlns=''><b xmlns='u'/></a>");
        right("<a xmlns:p='u'><p:b><p:c xmlns:p='v'/></p:b></a>");
        right("<a xmlns:p='u' xmlns='u' p:b='' b=''/>");
        right("<a xmlns:p='u' p='u'/>");
        right("<a b='u' xmlns:p='u' p:c=''/>");
        right("<a xmlns:p='u' xmlns:q='u' p:q='' q:p=''/>");
        wrong("\u00a4<p:a p='u'/>");
        wrong("\u00a4<p:a/>");
        wrong("<r>\u00a4<a p:b=''/></r>");
        wrong("<r>\u00a4<a p:b=''></a></r>");
        wrong("<r><a xmlns:p='u'/>\u00a4<p:b/></r>");
        wrong("\u00a4<xmlns:a/>");
        wrong("\u00a4<a xmlns='u' xmlns='u'/>");
        wrong("\u00a4<a xmlns:p='u' xmlns:p='v'/>");
        wrong("\u00a4<a xmlns:p='u' xmlns:q='u' p:b='' q:b=''/>");
        right("<a xmlns:p='u' xmlns:q='v' p:b='' q:b=''/>");
        wrong("<r xmlns:p='u'>\u00a4<a xmlns:q='u' p:b='' q:b=''/></r>");
        right("<r xmlns:p='u'><a xmlns:q='u' xmlns:p='v' p:b='' q:b=''/></r>");
        wrong("\u00a4<a xmlns:x='http://www.w3.org/XML/1998/namespace' x:b='' xml:b=''/>");
        wrong("\u00a4<a xmlns:xmlns='u'/>");
        wrong("\u00a4<a xmlns:xml='u'/>");
        wrong("\u00a4<a xmlns:p=''/>");
        wrong("\u00a4<a xmlns:p='' /x>");
    }

    private void limits() {
        right("<a>".repeat(20) + "</a>".repeat(20));
        told(31, "<a>".repeat(20) + "\u00a4<a/>" + "</a>".repeat(20));
        told(31, "<a>".repeat(20) + "\u00a4<a");
        wrong("<a>".repeat(20) + "<\u00a41");
        right("<r>" + "<b/>".repeat(299) + "</r>");
        told(31, "<r>" + "<b/>".repeat(299) + "\u00a4<b/></r>");
        StringBuilder many = new StringBuilder();
        for (int i = 0; i < 14; i++) {
            many.append(" a").append(i).append("=''");
        }
        right("<r xmlns='u' xmlns:p='u'" + many + "/>");
        told(31, "<r>\n \u00a4<r xmlns='u' xmlns:p='u'" + many + " x=''/></r>");
        told(31, "\u00a4<r xmlns='u' xmlns:p='u'" + many + " x");
        wrong("<r xmlns='u' xmlns:p='u'" + many + "\u00a4x=''/>");
        wrong("<r xmlns='u' xmlns:p='u'" + many + " \u00a4?");
    }

    private void places() {
        wrong("<a>\n\u00a4&</a>");
        wrong("<a>\r\u00a4&</a>");
        wrong("<a>\r\n\u00a4&</a>");
        wrong("<a>\n\r\u00a4&</a>");
        wrong("<a>\r\r\n\n\u00e9\ud83d\ude00\u00a4&</a>");
        wrong("<a>\r\u00a4");
        wrong("<a>\r\n\u00a4");
        due.is("the first three bytes aren't in the line", Xml.report(Zip.utf8("\ufeff<a>&</a>")), "30@1:1:4");
        due.is("the same bytes behind them are", Xml.report(Zip.utf8("\ufeff\ufeff<a/>")), "30@1:1:1");
    }

    /** Values and texts come out as they should: they are looked at through a book's label and title. */
    private void values() {
        label("a&amp;b&#x20ac;&#233;<b>c</b><![CDATA[<d>]]>", "a&b\u20ac\u00e9c<d>");
        label(" \r\n a\t\r b <!-- x -->c<i> </i>d ", "a b c d");
        label("x&#32;&#10;y", "x y");
        label("\ud83d\ude00", "\ud83d\ude00");
        label("a\u00a0 b", "a\u00a0 b");
        label("<![CDATA[x]]]]>y", "x]]y");
        Book book = new Book().swap(Book.PACK, "id='nav' href='nav.xhtml'", "id='nav' href='nav&#46;xhtml'");
        book.due(due, "a reference in a value");
        book = new Book().swap(Book.PACK, "properties='nav'", "properties='\tnav\r\nsvg\n'");
        book.due(due, "blanks in a value");
        book = new Book().swap(Book.PACK, "idref='nav'", "idref='n\r\nv'").swap(Book.PACK, "id='nav'", "id='n v'");
        book.due(due, "13 10 is one blank in a value");
        book = new Book().swap(Book.PACK, "idref='nav'", "idref='n&#13;&#10;v'").swap(Book.PACK, "id='nav'", "id='n&#xd;&#xA;v'");
        book.due(due, "references stay what they are");
        book = new Book().swap(Book.PACK, "idref='nav'", "idref='n&#10;v'").swap(Book.PACK, "id='nav'", "id='n v'");
        book.due(due, "a reference is no blank", "66 E/p.opf <itemref", "73 E/nav.xhtml <a href='#'");
    }

    /** What stands behind a document's last byte is another entry's. */
    private void neighbours() {
        String[] ends = {"<a>\u00c3", "<a>\u00e2\u0082", "<a>\r", "<a/>\r", "<a", "<a>&am", "\u00ef\u00bb"};
        String[] begins = {"\u00a9</a>", "\u00ac</a>", "\n</a>", "\n", "/>", "p;</a>", "\u00bf<a/>"};
        String[] due = {"30@0:1:4", "30@0:1:4", "30@0:2:1", "40@0:1:1", "30@0:1:3", "30@0:1:4", "30@0:1:1"};
        for (int i = 0; i < ends.length; i++) {
            Zip zip = new Zip();
            zip.stored("META-INF/container.xml", Zip.latin(ends[i]));
            zip.stored("b", Zip.latin(begins[i]));
            this.due.is("a document ahead of another", new Desk().report(zip.bytes()), "20@-1:0:0 " + due[i]);
        }
    }

    private void label(String inside, String want) {
        Desk desk = new Desk();
        desk.check(new Book().swap(Book.NAV, ">One<", ">" + inside + "<").bytes());
        due.is("label of " + inside, desk.label(0), want);
        due.is("its length", desk.contents(0, 2), Zip.utf8(want).length);
    }
}
