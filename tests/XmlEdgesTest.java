/** Edges of XML: each char at each place, documents cut off anywhere, what comes first, and what the limits just allow. */
public final class XmlEdgesTest {
    private static final String BLANKS = "\t\n\r ";

    private final Due due = new Due();
    private final Xml xml = new Xml(due);

    public static void main(String[] args) {
        XmlEdgesTest test = new XmlEdgesTest();
        test.charsOfNames();
        test.charsBehindNames();
        test.wideChars();
        test.charsInside();
        test.badBytes();
        test.fullSize();
        test.blanks();
        test.noBlanks();
        test.cutOff();
        test.declarations();
        test.instructionsNamedXml();
        test.order();
        test.doctypes();
        test.comments();
        test.instructions();
        test.textsAndCdata();
        test.quotes();
        test.numbersOfReferences();
        test.endsOfElements();
        test.due.close();
    }

    private void right(String text) {
        xml.right(text);
    }

    private void wrong(String text) {
        xml.told(30, text);
    }

    private static boolean isStart(char c) {
        return c >= 'A' && c <= 'Z' || c >= 'a' && c <= 'z' || c == '_';
    }

    private static boolean isInner(char c) {
        return isStart(c) || c >= '0' && c <= '9' || c == '-' || c == '.';
    }

    private void charsOfNames() {
        for (char c = 9; c < 128; c++) {
            if (c < 32 && BLANKS.indexOf(c) < 0) {
                continue;
            }
            if (isStart(c)) {
                right("<" + c + "/>");
                right("<?" + c + "?><a/>");
                right("<!DOCTYPE " + c + "><a/>");
                right("<a " + c + "=''/>");
                right("<p:" + c + " xmlns:p='u'/>");
                right("<" + c + ":a xmlns:" + c + "='u'/>");
                right("<a></a>".replace("a", "" + c));
                continue;
            }
            if ("?!/".indexOf(c) < 0) {
                wrong("<\u00a4" + c + "a/>");
            }
            wrong("<?\u00a4" + c + "a?><a/>");
            if (BLANKS.indexOf(c) < 0) {
                wrong("<!DOCTYPE \u00a4" + c + "a><a/>");
                if ("/>".indexOf(c) < 0) {
                    wrong("<a \u00a4" + c + "a=''/>");
                }
            }
            wrong("<p:\u00a4" + c + "a xmlns:p='u'/>");
            wrong("<a p:\u00a4" + c + "a=''/>");
            wrong("<a></\u00a4" + c + "a>");
        }
    }

    private void charsBehindNames() {
        for (char c = 9; c < 128; c++) {
            if (c < 32 && BLANKS.indexOf(c) < 0) {
                continue;
            }
            boolean blank = BLANKS.indexOf(c) >= 0;
            if (isInner(c)) {
                right("<a" + c + "/>");
                right("<?a" + c + "?><a/>");
                right("<!DOCTYPE a" + c + "><a/>");
                right("<a a" + c + "=''/>");
                right("<p:a" + c + " xmlns:p='u'/>");
                right("<p" + c + ":a xmlns:p" + c + "='u'/>");
                right("<a" + c + "></a" + c + ">");
                continue;
            }
            if (blank) {
                right("<a" + c + "/>");
                right("<?a" + c + "?><a/>");
                right("<!DOCTYPE a" + c + "><a/>");
                right("<a a" + c + "=''/>");
                right("<a></a" + c + ">");
                continue;
            }
            if ("/>:".indexOf(c) < 0) {
                wrong("<a\u00a4" + c + "/>");
            }
            if (c != '?') {
                wrong("<?a\u00a4" + c + "?><a/>");
            }
            if (c != '>') {
                wrong("<!DOCTYPE a\u00a4" + c + "><a/>");
                wrong("<a></a \u00a4" + c + ">");
            }
            if ("=:".indexOf(c) < 0) {
                wrong("<a a\u00a4" + c + "=''/>");
            }
        }
    }

    /** Chars above 127 are all good for names. */
    private void wideChars() {
        for (String c : new String[] {"\u0080", "\u00a0", "\u00b7", "\u00d7", "\u07ff", "\u0800", "\u2028", "\ud7ff", "\ue000", "\ufeff",
            "\ufffd", "\ud800\udc00", "\udbff\udfff"}) {
            right("<" + c + "></" + c + ">");
            right("<a" + c + "/>");
            right("<a " + c + "='" + c + "'>" + c + "</a>");
            right("<?" + c + " " + c + "?><!DOCTYPE " + c + "><!--" + c + "--><a><![CDATA[" + c + "]]></a>");
        }
        wrong("<\u00a4\u007f/>");
        wrong("<a\u00a4\u007f/>");
    }

    /** Which chars there are, in everything that has chars. */
    private void charsInside() {
        String[] around = {"<a>|</a>", "<a b='|'/>", "<a b=\"|\"/>", "<a><!--|--></a>", "<a><?p |?></a>", "<a><![CDATA[|]]></a>",
            "<!--|--><a/>", "<a/><?p |?>", "<a/><!--|-->"};
        for (String text : around) {
            int at = text.indexOf('|');
            String head = text.substring(0, at);
            String tail = text.substring(at + 1);
            for (int c = 0; c < 33; c++) {
                if (c == 9 || c == 10 || c == 13 || c == 32) {
                    right(head + (char) c + tail);
                } else {
                    wrong(head + "x\u00a4" + (char) c + tail);
                }
            }
            for (char c : new char[] {33, 126, 127, 128, 55295, 57344, 65533}) {
                right(head + c + tail);
            }
            for (char c : new char[] {65534, 65535}) {
                wrong(head + "\ud83d\ude00\u00a4" + c + tail);
            }
            right(head + "\ud800\udc00\udbff\udfff\ud83f\udfff" + tail);
        }
    }

    /** Bytes that are no chars, wherever a document may have or end with something. */
    private void badBytes() {
        String[] heads = {"", " ", "<a/>", "<a/> ", "<a></a>", "<a>", "<a>x", "<", "<a", "<a ", "<a b", "<a b=", "<a b='", "<a b='x'",
            "<a/", "<a><", "<a></", "<a></a", "<a></a ", "<!", "<!-", "<!--", "<!-- -", "<!-- --", "<?", "<?p", "<?p ", "<?p ?",
            "<!D", "<!DOCTYPE", "<!DOCTYPE ", "<!DOCTYPE a", "<a><![", "<a><![CDATA[", "<a><![CDATA[]", "<a><![CDATA[]]", "<?xml ",
                "<?xml version='1.0'", "<?xml version='1.0'?", "<a>]]", "<a>&amp;", "\ufeff", "\ufeff<a/>"};
        for (String head : heads) {
            int at = head.length() + (head.startsWith("\ufeff") ? 0 : 1);
            for (int bad : new int[] {0xFF, 0x80, 0xC3, 0, 1, 0x0B}) {
                byte[] row = java.util.Arrays.copyOf(Zip.utf8(head), Zip.utf8(head).length + 1);
                row[row.length - 1] = (byte) bad;
                due.is("byte " + bad + " behind " + head, Xml.report(row), "30@1:1:" + at);
                byte[] more = java.util.Arrays.copyOf(row, row.length + 2);
                more[row.length] = '/';
                more[row.length + 1] = '>';
                due.is("byte " + bad + " amid " + head, Xml.report(more), "30@1:1:" + at);
            }
        }
        for (String head : new String[] {"<a>&", "<a>&am", "<a>&amp", "<a>&#", "<a>&#6", "<a>&#x", "<a>&#x4", "<a></b"}) {
            byte[] row = java.util.Arrays.copyOf(Zip.utf8(head), head.length() + 1);
            row[head.length()] = (byte) 0xFF;
            due.is("a byte behind " + head, Xml.report(row), "30@1:1:4");
        }
    }

    /** As many bytes as a document may have. */
    private void fullSize() {
        right("<a>" + "x".repeat(5993) + "</a>");
        right("<a/>" + " ".repeat(5996));
        right("\n".repeat(5996) + "<a/>");
        right("<" + "a".repeat(5997) + "/>");
        right("<a b='" + "x".repeat(5991) + "'/>");
        right("<!--" + "x".repeat(5989) + "--><a/>");
        right("<a>" + "\u20ac".repeat(1997) + "xx</a>");
        wrong("<a>" + "x".repeat(5997) + "\u00a4");
        wrong("\n".repeat(6000) + "\u00a4");
        wrong(" ".repeat(6000) + "\u00a4");
        wrong("<a/>" + "\r".repeat(5995) + "\u00a4x");
        wrong("<!--" + "-x".repeat(2998) + "\u00a4");
        wrong("<" + "a".repeat(5999) + "\u00a4");
        wrong("<a>" + "\r\n".repeat(2998) + "\u00a4&");
        StringBuilder many = new StringBuilder("<a>");
        for (int i = 0; i < 71; i++) {
            many.append("<b");
            for (char c = 'a'; c < 'q'; c++) {
                many.append(' ').append(c).append("=''");
            }
            many.append("/>");
        }
        right(many + "</a>");
    }

    /** Each of the four blanks, and several, wherever blanks may be. */
    private void blanks() {
        for (String b : new String[] {"\t", "\n", "\r", " ", "\r\n", " \t\n\r "}) {
            right("<?xml" + b + "version" + b + "=" + b + "'1.0'" + b + "encoding" + b + "=" + b + "'utf-8'" + b + "?><a/>");
            right(b + "<a/>");
            right("<a/>" + b);
            right(b + "<!DOCTYPE" + b + "a" + b + ">" + b + "<!---->" + b + "<?p" + b + "?>" + b + "<a" + b + "b" + b + "=" + b + "''" + b
                + "c=''" + b + "></a" + b + ">" + b);
            right("<a" + b + "/>");
        }
        right("<?xml version='1.0'?><a b=''/>");
    }

    /** Where there may be none, or must be some. */
    private void noBlanks() {
        wrong("<\u00a4 a/>");
        wrong("<a/\u00a4 >");
        wrong("<a><\u00a4 /a>");
        wrong("<a></\u00a4 a>");
        wrong("<p \u00a4:a xmlns:p='u'/>");
        wrong("<p:\u00a4 a xmlns:p='u'/>");
        wrong("<a p \u00a4:b=''/>");
        wrong("<a b=''\u00a4c=''/>");
        wrong("<a b=\"\"\u00a4c=''/>");
        wrong("<?\u00a4 p?><a/>");
        wrong("<?p?\u00a4 ><a/>");
        wrong("<\u00a4 ?p?><a/>");
        wrong("<\u00a4 !---->");
        wrong("<!\u00a4 ---->");
        wrong("<!-\u00a4 --->");
        wrong("<!----\u00a4 >");
        wrong("<!\u00a4 DOCTYPE a><a/>");
        wrong("<!DOCTYPE\u00a4>");
        wrong("<!DOCTYPE\u00a4a><a/>");
        wrong("<a><!\u00a4 [CDATA[]]></a>");
        wrong("<a><![\u00a4 CDATA[]]></a>");
        wrong("<a><![CDATA\u00a4 []]></a>");
        wrong("<a>\u00a4& amp;</a>");
        wrong("<a>\u00a4&amp ;</a>");
        wrong("<a>\u00a4&# 65;</a>");
        wrong("<a>\u00a4&#x 41;</a>");
        wrong("<?xml version='\u00a4 1.0'?><a/>");
        wrong("<?xml version='1.0\u00a4 '?><a/>");
        wrong("<?xml version='1.0'\u00a4encoding='utf-8'?><a/>");
        wrong("<?xml version='1.0'?\u00a4 ><a/>");
        wrong("<?xml version='1.0' encoding='\u00a4 utf-8'?><a/>");
    }

    /** A document with everything in it: cut off anywhere ahead of its end, it ends too early. */
    private void cutOff() {
        String text = "<?xml version=\"1.0\" encoding='UTF-8' ?><!-- c --><?p q?> <!DOCTYPE a ><ab b=\"1\" p:c='&amp;x&#65;' xmlns:p=\"u\" >t&lt;<![CDATA[x]]]>]\r\n<p:d/><p:e p:f='&#x41;'>\u00e9</p:e ></ab >";
        String behind = "<!-- e --> <?p?>";
        for (int n = 0; n < text.length(); n++) {
            String cut = text.substring(0, n);
            int from = cut.lastIndexOf('&');
            int end = cut.lastIndexOf("</");
            if (from >= 0 && text.indexOf(';', from) >= n) {
                xml.told(30, cut, from);
            } else if (end >= 0 && n > end + 2 && n < text.indexOf(' ', end) && !cut.endsWith(":")) {
                // What is there of the end's name isn't that of the open element.
                xml.told(30, cut, end);
            } else {
                xml.told(30, cut, n);
            }
        }
        right(text);
        for (int n = 1; n <= behind.length(); n++) {
            if (n == 10 || n == 11 || n == behind.length()) {
                right(text + behind.substring(0, n));
            } else {
                xml.told(30, text + behind.substring(0, n), text.length() + n);
            }
        }
    }

    private void declarations() {
        for (String text : new String[] {"<?xml version='1.0'?>", "<?xml version=\"1.0\"?>", "<?xml version='1.0' encoding=\"Utf-8\"?>",
            "<?xml version=\"1.0\" encoding='uTF-8'?>"}) {
            right(text + "<a/>");
            right("\ufeff" + text + "<a/>");
        }
        wrong("<?xml \u00a4?><a/>");
        wrong("<?xml \u00a4Version='1.0'?><a/>");
        wrong("<?xml v\u00a4='1.0'?><a/>");
        wrong("<?xml version\u00a4s='1.0'?><a/>");
        wrong("<?xml version\u00a4?><a/>");
        wrong("<?xml version=\u00a4?><a/>");
        wrong("<?xml version='\u00a4'?><a/>");
        wrong("<?xml version='\u00a42.0'?><a/>");
        wrong("<?xml version='1\u00a4'?><a/>");
        wrong("<?xml version='1.0\u00a40'?><a/>");
        wrong("<?xml version='1.0\u00a4\"?><a/>");
        wrong("<?xml version=\"1.0\u00a4'?><a/>");
        wrong("<?xml version='1.0' \u00a4Encoding='utf-8'?><a/>");
        wrong("<?xml version='1.0' encoding\u00a4?><a/>");
        wrong("<?xml version='1.0' e\u00a4='utf-8'?><a/>");
        wrong("<?xml version='1.0' encodin\u00a4='utf-8'?><a/>");
        wrong("<?xml version='1.0' encoding\u00a4'utf-8'?><a/>");
        wrong("<?xml version='1.0' encoding \u00a4'utf-8'?><a/>");
        wrong("<?xml version\u00a4'1.0'?><a/>");
        wrong("<?xml version='1.0' encoding='\u00a4'?><a/>");
        wrong("<?xml version='1.0' encoding='utf\u00a48'?><a/>");
        wrong("<?xml version='1.0' encoding='utf-8\u00a4s'?><a/>");
        wrong("<?xml version='1.0' encoding='utf-8\u00a4\"?><a/>");
        wrong("<?xml version='1.0' encoding='\u00a4iso-8859-1'?><a/>");
        wrong("<?xml version='1.0' \u00a4version='1.0'?><a/>");
        wrong("<?xml version='1.0' encoding='utf-8' \u00a4encoding='utf-8'?><a/>");
        wrong("<?xml version='1.0'\u00a4><a/>");
        wrong("<?xml version='1.0'\u00a4/><a/>");
    }

    /** It is a declaration only at the beginning and with a blank; else an instruction of that name, told behind it. */
    private void instructionsNamedXml() {
        for (String name : new String[] {"xml", "Xml", "xMl", "xmL", "XML"}) {
            for (String tail : new String[] {"?>", " ?>", "\n version='1.0'?>", "", ":a?>"}) {
                wrong("<a/><?" + name + "\u00a4" + tail);
                wrong("<a><?" + name + "\u00a4" + tail + "</a>");
                wrong(" <?" + name + "\u00a4" + tail + "<a/>");
                wrong("<!----><?" + name + "\u00a4" + tail + "<a/>");
            }
            wrong("<?" + name + "\u00a4?><a/>");
        }
        wrong("<?XML\u00a4 version='1.0'?><a/>");
        right("<?xml-x version='1.0'?><?xmlns?><?xm?><?x?><?xm.l?><a/>");
        right("<?xma?><?xal?><?aml?><?XMX?><?lmx?><a/>");
        wrong("<?xml version='1.0'?><?xml\u00a4 version='1.0'?><a/>");
    }

    /** [declaration] {misc} [doctype {misc}] element {misc}. */
    private void order() {
        wrong("\u00a4");
        wrong("<!---->\u00a4");
        wrong("<!DOCTYPE a>\u00a4");
        wrong("<!DOCTYPE a><!\u00a4DOCTYPE a><a/>");
        wrong("<!DOCTYPE a><!----><?p?> <!\u00a4DOCTYPE a><a/>");
        wrong("<a/><!\u00a4DOCTYPE a>");
        wrong("<a><!\u00a4DOCTYPE a></a>");
        wrong("<a/><\u00a4a/>");
        wrong("<a/> <!----> <\u00a4b/>");
        wrong("<a></a><\u00a4/a>");
        wrong("\u00a4x<a/>");
        wrong(" \u00a4x");
        wrong("<a/>\u00a4x");
        wrong("<a/>\n\u00a4x");
        wrong("\u00a4&#32;<a/>");
        wrong("<a/>\u00a4&#32;");
        wrong("<!\u00a4[CDATA[]]><a/>");
        wrong("<a/><!\u00a4[CDATA[]]>");
        wrong(" \u00a4\ufeff<a/>");
        right("<!----><?p?> <!DOCTYPE a> <!----><?p?><a/> <!----><?p?>");
    }

    private void doctypes() {
        right("<!DOCTYPE b><a/>");
        right("<!DOCTYPE _.-9><a/>");
        wrong("<!\u00a4doctype a><a/>");
        wrong("<!D\u00a4octype a><a/>");
        wrong("<!DOCTYPE a\u00a4[]><a/>");
        wrong("<!DOCTYPE a \u00a4[]><a/>");
        wrong("<!DOCTYPE a \u00a4SYSTEM 'a'><a/>");
        wrong("<!DOCTYPE a \u00a4b><a/>");
        wrong("<!DOCTYPE a\u00a4/><a/>");
        wrong("<!DOCTYPE \u00a41><a/>");
        wrong("<!\u00a4ELEMENT a><a/>");
        wrong("<!\u00a4>");
    }

    private void comments() {
        for (String inside : new String[] {"", " ", "-a", "a-b", "a- -b", "<a>&x;]]>?>", "- "}) {
            right("<!--" + inside + "--><a><!--" + inside + "--></a><!--" + inside + "-->");
        }
        wrong("<!--a--\u00a4b--><a/>");
        wrong("<!----\u00a4a--><a/>");
        wrong("<!-- --\u00a4 --><a/>");
        wrong("<!--->\u00a4");
        wrong("<!-->\u00a4");
        wrong("<!--\u00a4");
        wrong("<!--a-\u00a4");
        wrong("<!--a--\u00a4");
        wrong("<!-\u00a4><a/>");
        wrong("<!-\u00a4a--><a/>");
    }

    private void instructions() {
        for (String inside : new String[] {"?", "??", ">", "x>y", "x?y", "? >", "?x>", "<a>", "&", "--", "]]>", "'"}) {
            right("<?p " + inside + "?><a><?p " + inside + "?></a><?p " + inside + "?>");
        }
        for (String head : new String[] {"", "<a>", "<a/>"}) {
            wrong(head + "<?\u00a4");
            wrong(head + "<?p\u00a4");
            wrong(head + "<?p?\u00a4");
            wrong(head + "<?p \u00a4");
            wrong(head + "<?p x\u00a4");
            wrong(head + "<?p x?\u00a4");
            wrong(head + "<?p x>\u00a4");
            wrong(head + "<?p?\u00a4?>");
            wrong(head + "<?p\u00a4>");
        }
    }

    private void textsAndCdata() {
        for (String inside : new String[] {"]", "]]", "]>", "] ]>", "]]&gt;", "]]&amp;>", "]&lt;]>", "&#93;]>", "]]<b/>>", "]]<!---->>",
            "]]<?p?>>", "]]<![CDATA[]]>>", ">", "\"'", "--", "?>", "<![CDATA[]]>]>"}) {
            right("<a>" + inside + "</a>");
        }
        wrong("<a>]]\u00a4></a>");
        wrong("<a>x]]\u00a4>y</a>");
        wrong("<a>]]]]\u00a4></a>");
        wrong("<a>&#93;]]\u00a4></a>");
        wrong("<a><![CDATA[]]>]]\u00a4></a>");
        wrong("<a><b>]]\u00a4></b></a>");
        for (String inside : new String[] {"", "]", "]]", "]]]", ">", "]>", "]] >", "<a>", "&", "&amp;", "<!--", "<![CDATA["}) {
            right("<a><![CDATA[" + inside + "]]></a>");
        }
        wrong("<a><![CDATA[]]]\u00a4");
        wrong("<a><![CDATA[]>\u00a4");
        wrong("<a><![CDATA[\u00a4");
        wrong("<a><![C\u00a4data[]]></a>");
        wrong("<a><![CDATA\u00a4]]></a>");
    }

    private void quotes() {
        right("<a b='\"' c=\"'\" d='>' e=']]>' f='/' g='='/>");
        wrong("<a b=\u00a4/>");
        wrong("<a b=\u00a4>");
        wrong("<a b= \u00a4/>");
        wrong("<a b= \u00a4");
        wrong("<a b=\u00a4x/>");
        wrong("<a b=\u00a4`x`/>");
        wrong("<a b=\u00a4&quot;/>");
        wrong("<a b='x\"/>\u00a4");
        wrong("<a b=\"x'/>\u00a4");
        wrong("<a b='x\u00a4<'/>");
        wrong("<a b=\"\u00a4<\"/>");
        wrong("<a b='x'\u00a4'/>");
        wrong("<a b='x'\u00a4y/>");
        wrong("<a \u00a4='x'/>");
        wrong("<a \u00a4'x'/>");
        wrong("<a b=\u00a4='x'/>");
    }

    private void numbersOfReferences() {
        int[] right = {9, 10, 13, 32, 38, 60, 127, 128, 55295, 57344, 65533, 65536, 1114111};
        for (int c : right) {
            right("<a b='&#" + c + ";'>&#x" + Integer.toHexString(c) + ";&#x" + Integer.toHexString(c).toUpperCase() + ";&#000" + c
                + ";&#x000" + Integer.toHexString(c) + ";</a>");
        }
        long[] wrong = {0, 8, 11, 12, 14, 31, 55296, 57343, 65534, 65535, 1114112, 2147483647L, 2147483648L, 2147483713L, 4294967295L,
            4294967296L + 65, 4294967296L * 65536 + 65, Long.MAX_VALUE};
        for (long c : wrong) {
            wrong("<a>\u00a4&#" + c + ";</a>");
            wrong("<a b='\u00a4&#x" + Long.toHexString(c) + ";'/>");
        }
        wrong("<a>\u00a4&#x10000000000000041;</a>");
        wrong("<a>\u00a4&#18446744073709551681;</a>");
        for (String bad : new String[] {"&#a;", "&#x;", "&#;", "&#xG;", "&#1a;", "&#3F;", "&#3f;", "&#6A;", "&#6a;", "&#x4g;", "&#x4G;",
            "&#+65;", "&#-65;", "&#x-41;", "&#6 5;", "&#65", "&#x41",
            "&#X41;", "&#65,", "&#x4:;", "&#/;", "&#x@;", "&#x`;", "&#:;"}) {
            wrong("<a>x\u00a4" + bad + "</a>");
            wrong("<a b='x\u00a4" + bad + "'/>");
        }
        for (String bad : new String[] {"&am;", "&ampp;", "&l;", "&ltt;", "&g;", "&gtt;", "&quo;", "&quots;", "&apo;", "&aposs;", "&LT;",
            "&Amp;", "&;", "&&amp;", "&a mp;", "&x;", "&amp&amp;", "&lt", "&gt:"}) {
            wrong("<a>x\u00a4" + bad + "</a>");
            wrong("<a b='x\u00a4" + bad + "'/>");
        }
        wrong("<a>&amp;&lt;\u00a4&</a>");
        wrong("<a b='&amp;\u00a4&'/>");
    }

    /** An end that isn't that of the open element is told at its < as its name is over. */
    private void endsOfElements() {
        right("<a><b></b><a></a></a>");
        wrong("<a><b>\u00a4</a></b>");
        wrong("<a><b></b>\u00a4</b></a>");
        wrong("<ab>\u00a4</a>");
        wrong("<ab>\u00a4</abc>");
        wrong("<ab>\u00a4</Ab>");
        wrong("<a>\u00a4</b:a>");
        wrong("<p:a xmlns:p='u'>\u00a4</a>");
        wrong("<p:a xmlns:p='u' xmlns:q='u'>\u00a4</q:a>");
        wrong("<a>\u00a4</b x>");
        wrong("<a>\u00a4</b/>");
        wrong("<a></a\u00a4/>");
        wrong("<a></a \u00a4x=''>");
        wrong("<a></\u00a4>");
        wrong("<a></\u00a4/a>");
        wrong("<a></b:\u00a41>");
        wrong("<a>\u00a4</a:a:a>");
        right("<a><a/></a>");
    }
}
