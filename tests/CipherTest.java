import java.security.MessageDigest;
import java.util.Random;

/** The encryption: 80 to 82, and the bytes as a reader has them. */
public final class CipherTest {
    private static final String OPEN = "<encryption xmlns='urn:oasis:names:tc:opendocument:xmlns:container' xmlns:x='http://www.w3.org/2001/04/xmlenc#'>\n";
    private static final String METHOD = "<x:EncryptionMethod Algorithm='http://www.idpf.org/2008/embedding'/>";
    private static final String AT = "META-INF/encryption.xml <x:EncryptedData";

    private final Due due = new Due();

    public static void main(String[] args) throws Exception {
        CipherTest test = new CipherTest();
        test.roots();
        test.methods();
        test.references();
        test.marks();
        test.keys();
        test.due.close();
    }

    private static Book whole(String text) {
        return new Book().put(Book.ENCRYPTION, text);
    }

    private static Book data(String inside) {
        return whole(OPEN + "<x:EncryptedData>" + inside + "</x:EncryptedData></encryption>");
    }

    private static String refer(String uri) {
        return "<x:CipherData><x:CipherReference URI='" + uri + "'/></x:CipherData>";
    }

    private void roots() {
        whole(OPEN + "</encryption>").due(due, "nothing in it");
        whole("<encryption/>").due(due, "no namespace", "80 META-INF/encryption.xml <");
        whole("<container xmlns='urn:oasis:names:tc:opendocument:xmlns:container'/>").due(due, "another root", "80 META-INF/encryption.xml <");
        whole("<x:encryption xmlns:x='http://www.w3.org/2001/04/xmlenc#'><x:EncryptedData/></x:encryption>").due(due, "another namespace, nothing else", "80 META-INF/encryption.xml <");
        due.is("not well formed", new Desk().report(whole("<a>").bytes()), "30@6:1:4");
        whole(OPEN + "<EncryptedData/><y><x:EncryptedData/></y></encryption>").due(due, "none of these");
    }

    private void methods() {
        data("").due(due, "no method", "81 " + AT);
        data("<x:EncryptionMethod/>" + refer("E/i/pic.png")).due(due, "no algorithm", "81 " + AT);
        data("<x:EncryptionMethod Algorithm='x'/>" + refer("E/i/pic.png")).due(due, "another algorithm", "81 " + AT);
        data("<x:EncryptionMethod Algorithm='x'/>" + METHOD).due(due, "the first counts", "81 " + AT);
        data("<EncryptionMethod/>" + METHOD + "<x:EncryptionMethod/>" + refer("E/i/pic.png")).due(due, "the first of its namespace");
        data("<y>" + METHOD + "</y>").due(due, "one deeper", "81 " + AT);
        data(refer("E/i/pic.png") + METHOD).due(due, "in any order");
        data("").swap(Book.CONTAINER, "E/p.opf", "q").due(due, "without a package, too", "42 META-INF/container.xml <rootfile full", "81 " + AT);
        data("").swap(Book.PACK, "3.0", "2.0").due(due, "with 50, too", "50 E/p.opf <package", "81 " + AT);
        data("").swap(Book.CONTAINER, "version='1.0'", "").due(due, "with 40, too", "40 META-INF/container.xml <", "81 " + AT);
        data("").drop(Book.CONTAINER).due(due, "without a container, too", "22 -", "81 " + AT);
    }

    private void references() {
        String[] wrong = {"", "<x:CipherData/>", "<x:CipherReference URI='E/i/pic.png'/>", "<x:CipherData><x:CipherReference/></x:CipherData>", refer(""), refer("/E/i/pic.png"),
            refer("pic.png"), refer("../E/i/pic.png"), refer("E/i/pic.png?"), "<x:CipherData/>" + refer("E/i/pic.png"),
            "<x:CipherData><x:CipherReference/><x:CipherReference URI='E/i/pic.png'/></x:CipherData>", "<CipherData><x:CipherReference URI='E/i/pic.png'/></CipherData>",
            "<x:CipherData><CipherReference URI='E/i/pic.png'/></x:CipherData>", "<x:CipherData><x:CipherReference x:URI='E/i/pic.png'/></x:CipherData>",
            "<x:CipherData><x:CipherReference uri='E/i/pic.png'/></x:CipherData>"};
        for (String text : wrong) {
            data(METHOD + text).due(due, "reference " + text, "82 " + AT);
        }
        data(METHOD + refer("E/../E/i/%70ic.png#x")).due(due, "a right one");
    }

    private void marks(String what, Book book, String want) {
        Desk desk = new Desk();
        desk.check(book.bytes());
        StringBuilder marked = new StringBuilder();
        int n = 0;
        for (int i = 0; i < desk.about(0); i++) {
            if (desk.entry(i, 5) == 1) {
                marked.append(desk.name(i)).append(' ');
                n++;
            }
        }
        due.is(what, marked.toString().trim(), want);
        due.is(what + ": how many", desk.about(7), n);
    }

    private void marks() {
        String pic = METHOD + refer("E/i/pic.png");
        marks("one", data(pic), "E/i/pic.png");
        marks("none", data(METHOD), "");
        marks("another method", data(refer("E/i/pic.png")), "");
        marks("without an identifier", data(pic).swap(Book.PACK, "unique-identifier='uid'", ""), "");
        marks("with 50", data(pic).swap(Book.PACK, "3.0", "2.0"), "");
        marks("with 52", data(pic).swap(Book.PACK, "<spine>", "<x/><spine>"), "");
        marks("with 30", data(pic).swap(Book.PACK, "<spine>", ""), "");
        marks("without a package", data(pic).drop(Book.CONTAINER), "");
        marks("its own name", data(METHOD + refer("#")), "META-INF/encryption.xml");
        marks("several, one twice", whole(OPEN + "<x:EncryptedData>" + pic + "</x:EncryptedData><x:EncryptedData>" + pic + "</x:EncryptedData><x:EncryptedData>" + METHOD
            + refer("mimetype") + "</x:EncryptedData><x:EncryptedData/></encryption>"), "mimetype E/i/pic.png");
        Zip zip = data(pic).zip();
        zip.entries.get(5).flags = 1;
        Desk desk = new Desk();
        desk.check(zip.bytes());
        due.is("one that isn't read", desk.entry(5, 5), 1);
        due.is("its bytes", desk.resource(5, 0), EpubDesk.NONE);
        desk.check(new Book().bytes());
        due.is("nothing is left of it", desk.entry(5, 5) + desk.about(7), 0);
    }

    private void keys() throws Exception {
        Random random = new Random(5);
        String[] texts = {"urn:x:1", " a b\r\nc\td ", "\u00e9\u20ac\ud83d\ude00", "", "x<!-- c -->y<![CDATA[ & ]]>&amp;<z>not</z>q"};
        String[] plain = {"urn:x:1", "abcd", "\u00e9\u20ac\ud83d\ude00", "", "xy&&q"};
        for (int i = 0; i < texts.length; i++) {
            key(texts[i], plain[i], 1100 + random.nextInt(100), random);
        }
        for (int n : new int[] {1, 54, 55, 56, 57, 62, 63, 64, 65, 118, 119, 120, 128, 1000, 3000}) {
            String text = "k".repeat(n);
            key(text, text, 100, random);
        }
        for (int size : new int[] {0, 1, 19, 20, 21, 1039, 1040, 1041, 3000}) {
            key("x", "x", size, random);
        }
    }

    private void key(String text, String plain, int size, Random random) throws Exception {
        Book book = data(METHOD + refer("E/i/pic.png")).swap(Book.PACK, "urn:x:1", text);
        byte[] bytes = new byte[size];
        random.nextBytes(bytes);
        Zip zip = book.zip();
        zip.entries.set(5, new Zip().stored(Book.PICTURE, bytes));
        Desk desk = new Desk();
        desk.check(zip.bytes());
        byte[] key = MessageDigest.getInstance("SHA-1").digest(Zip.utf8(plain));
        int wrong = 0;
        for (int k = 0; k < size; k++) {
            int want = bytes[k] & 255 ^ (k < 1040 ? key[k % 20] & 255 : 0);
            wrong += desk.resource(5, k) == want ? 0 : 1;
        }
        due.is("bytes turned back by a key of " + plain.length() + ", size " + size, wrong, 0);
        due.is("behind the last", desk.resource(5, size), EpubDesk.NONE);
        due.is("another entry's bytes", desk.resource(0, 0), 'a');
    }
}
