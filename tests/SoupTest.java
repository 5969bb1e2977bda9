import java.io.ByteArrayInputStream;
import java.io.IOException;
import java.util.Random;
import javax.xml.parsers.ParserConfigurationException;
import javax.xml.parsers.SAXParser;
import javax.xml.parsers.SAXParserFactory;
import org.xml.sax.SAXException;
import org.xml.sax.SAXParseException;
import org.xml.sax.helpers.DefaultHandler;

/** Documents stirred together from pieces, small enough for the limits: right are those that a library can parse. */
public final class SoupTest {
    private static final String[] PIECES = {"<a>", "</a>", "<a/>", "<b c='d'>", "</b>", "<p:a xmlns:p='u'>", "</p:a>", "<p:b/>",
        "<a p:c=''/>",
        "<a xmlns:p='u' p:c='1'>", "<a b='1' b='2'/>", "<a xmlns='u'>", "<a xmlns=''/>", "<a xmlns:p=''/>",
            "<a xmlns:p='u' xmlns:q='u' p:b='' q:b=''/>",
        "<a xml:lang='x'/>", "<", ">", "/", "=", "'", "\"", " ", "\n", "\r", "\t", "&", ";", "&amp;", "&lt;", "&#65;", "&#x41;", "&#0;",
            "&#xFFFE;",
        "&nbsp;", "]", "]]", "]]>", "-", "--", "-->", "<!--", "<!-- c -->", "<![CDATA[", "<![CDATA[x]]>", "<?", "?>", "<?p?>", "<?p q?>",
            "<?xml?>",
        "<!DOCTYPE a>", "x", "1", "\u00e9", "\ud83d\ude00", "\u0001", "\uffff", "\ufffd", "c='d'", " c=\"d\"", ":", "?", "!", "[", ".",
            "_"};
    private static final String[] HEADS = {"", "", "", "<a>", "<a>", "<a>", "<a><b>", "<?xml version='1.0'?>",
        "<?xml version=\"1.0\" encoding='UTF-8'?>\n<a>",
        "<!DOCTYPE a><a>", "\ufeff<a>", "<?xml version = '1.0' ?><a>", "<a b='", "<a>x<!--", "<a><![CDATA["};
    private static final String[] TAILS = {"", "", "</a>", "</a>", "</a>", "</b></a>", "</a >", "/>", "'/>", "--></a>", "]]></a>",
        "</a><!-- c -->\n"};

    private final Random random = new Random(20261116);
    private final SAXParser library;

    private SoupTest() throws ParserConfigurationException, SAXException {
        SAXParserFactory factory = SAXParserFactory.newInstance();
        factory.setNamespaceAware(true);
        library = factory.newSAXParser();
    }

    public static void main(String[] args) throws Exception {
        Due due = new Due();
        SoupTest test = new SoupTest();
        int right = 0;
        int rounds = 12000;
        for (int round = 0; round < rounds; round++) {
            String text = test.soup();
            boolean parsed = test.isParsed(text);
            right += parsed ? 1 : 0;
            String report = Xml.report(Zip.utf8(text));
            due.is("soup " + text, report.startsWith("30@") ? 0 : 1, parsed ? 1 : 0);
        }
        due.yes("many of them are right, and many wrong", right > rounds / 10 && right < rounds / 10 * 9);
        due.close();
    }

    private String soup() {
        StringBuilder text = new StringBuilder(pick(HEADS));
        int n = random.nextInt(6);
        for (int i = 0; i < n; i++) {
            text.append(pick(PIECES));
        }
        return text.append(pick(TAILS)).toString();
    }

    private String pick(String[] row) {
        return row[random.nextInt(row.length)];
    }

    private boolean isParsed(String text) throws IOException {
        try {
            library.parse(new ByteArrayInputStream(Zip.utf8(text)), new DefaultHandler() {
                @Override
                public void fatalError(SAXParseException fault) throws SAXException {
                    throw fault;
                }

                @Override
                public void error(SAXParseException fault) throws SAXException {
                    throw fault;
                }
            });
            return true;
        } catch (SAXException fault) {
            return false;
        }
    }
}
