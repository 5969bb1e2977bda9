import java.security.MessageDigest;
import java.util.Random;

/** The encryption: 80 to 82, and the bytes as a reader has them. */
public final class CipherTest {
    private static final String OPEN = "<encryption xmlns='urn:oasis:names:tc:opendocument:xmlns:container' xmlns:x='http://www.w3.org/2001/04/xmlenc#'>\n";
    private static final String METHOD = "<x:EncryptionMethod Algorithm='http://www.idpf.org/2008/embedding'/>";
    private static final String AT = "META-INF/encryption.xml <x:EncryptedData";

    private final Due due = new Due();

    public static void main(String[] args) throws Exception {
        CipherTest test = new CipherTest();
        test.roots();
        test.methods();
        test.references();
        test.marks();
        test.keys();
        test.rootsBeside();
        test.dataBeside();
        test.algorithms();
        test.uris();
        test.notRead();
        test.identifiers();
        test.asTheyAre();
        test.manyTimes();
        test.lengths();
        test.due.close();
    }

    private static Book whole(String text) {
        return new Book().put(Book.ENCRYPTION, text);
    }

    private static Book data(String inside) {
        return whole(OPEN + "<x:EncryptedData>" + inside + "</x:EncryptedData></encryption>");
    }

    private static String refer(String uri) {
        return "<x:CipherData><x:CipherReference URI='" + uri + "'/></x:CipherData>";
    }

    private void roots() {
        whole(OPEN + "</encryption>").due(due, "nothing in it");
        whole("<encryption/>").due(due, "no namespace", "80 META-INF/encryption.xml <");
        whole("<container xmlns='urn:oasis:names:tc:opendocument:xmlns:container'/>")
            .due(due, "another root", "80 META-INF/encryption.xml <");
        whole("<x:encryption xmlns:x='http://www.w3.org/2001/04/xmlenc#'><x:EncryptedData/></x:encryption>")
            .due(due, "another namespace, nothing else", "80 META-INF/encryption.xml <");
        due.is("not well formed", new Desk().report(whole("<a>").bytes()), "30@6:1:4");
        whole(OPEN + "<EncryptedData/><y><x:EncryptedData/></y></encryption>").due(due, "none of these");
    }

    private void methods() {
        data("").due(due, "no method", "81 " + AT);
        data("<x:EncryptionMethod/>" + refer("E/i/pic.png")).due(due, "no algorithm", "81 " + AT);
        data("<x:EncryptionMethod Algorithm='x'/>" + refer("E/i/pic.png")).due(due, "another algorithm", "81 " + AT);
        data("<x:EncryptionMethod Algorithm='x'/>" + METHOD).due(due, "the first counts", "81 " + AT);
        data("<EncryptionMethod/>" + METHOD + "<x:EncryptionMethod/>" + refer("E/i/pic.png")).due(due, "the first of its namespace");
        data("<y>" + METHOD + "</y>").due(due, "one deeper", "81 " + AT);
        data(refer("E/i/pic.png") + METHOD).due(due, "in any order");
        data("").swap(Book.CONTAINER, "E/p.opf", "q").due(due, "without a package, too", "42 META-INF/container.xml <rootfile full", "81 "
            + AT);
        data("").swap(Book.PACK, "3.0", "2.0").due(due, "with 50, too", "50 E/p.opf <package", "81 " + AT);
        data("").swap(Book.CONTAINER, "version='1.0'", "").due(due, "with 40, too", "40 META-INF/container.xml <", "81 " + AT);
        data("").drop(Book.CONTAINER).due(due, "without a container, too", "22 -", "81 " + AT);
    }

    private void references() {
        String[] wrong = {"", "<x:CipherData/>", "<x:CipherReference URI='E/i/pic.png'/>",
            "<x:CipherData><x:CipherReference/></x:CipherData>", refer(""), refer("/E/i/pic.png"),
            refer("pic.png"), refer("../E/i/pic.png"), refer("E/i/pic.png?"), "<x:CipherData/>" + refer("E/i/pic.png"),
            "<x:CipherData><x:CipherReference/><x:CipherReference URI='E/i/pic.png'/></x:CipherData>",
                "<CipherData><x:CipherReference URI='E/i/pic.png'/></CipherData>",
            "<x:CipherData><CipherReference URI='E/i/pic.png'/></x:CipherData>",
                "<x:CipherData><x:CipherReference x:URI='E/i/pic.png'/></x:CipherData>",
            "<x:CipherData><x:CipherReference uri='E/i/pic.png'/></x:CipherData>"};
        for (String text : wrong) {
            data(METHOD + text).due(due, "reference " + text, "82 " + AT);
        }
        data(METHOD + refer("E/../E/i/%70ic.png#x")).due(due, "a right one");
    }

    private void marks(String what, Book book, String want) {
        Desk desk = new Desk();
        desk.check(book.bytes());
        StringBuilder marked = new StringBuilder();
        int n = 0;
        for (int i = 0; i < desk.about(0); i++) {
            if (desk.entry(i, 5) == 1) {
                marked.append(desk.name(i)).append(' ');
                n++;
            }
        }
        due.is(what, marked.toString().trim(), want);
        due.is(what + ": how many", desk.about(7), n);
    }

    private void marks() {
        String pic = METHOD + refer("E/i/pic.png");
        marks("one", data(pic), "E/i/pic.png");
        marks("none", data(METHOD), "");
        marks("another method", data(refer("E/i/pic.png")), "");
        marks("without an identifier", data(pic).swap(Book.PACK, "unique-identifier='uid'", ""), "");
        marks("with 50", data(pic).swap(Book.PACK, "3.0", "2.0"), "");
        marks("with 52", data(pic).swap(Book.PACK, "<spine>", "<x/><spine>"), "");
        marks("with 30", data(pic).swap(Book.PACK, "<spine>", ""), "");
        marks("without a package", data(pic).drop(Book.CONTAINER), "");
        marks("its own name", data(METHOD + refer("#")), "META-INF/encryption.xml");
        marks("several, one twice", whole(OPEN + "<x:EncryptedData>" + pic + "</x:EncryptedData><x:EncryptedData>" + pic
            + "</x:EncryptedData><x:EncryptedData>" + METHOD
            + refer("mimetype") + "</x:EncryptedData><x:EncryptedData/></encryption>"), "mimetype E/i/pic.png");
        Zip zip = data(pic).zip();
        zip.entries.get(5).flags = 1;
        Desk desk = new Desk();
        desk.check(zip.bytes());
        due.is("one that isn't read", desk.entry(5, 5), 1);
        due.is("its bytes", desk.resource(5, 0), EpubDesk.NONE);
        desk.check(new Book().bytes());
        due.is("nothing is left of it", desk.entry(5, 5) + desk.about(7), 0);
    }

    private void keys() throws Exception {
        Random random = new Random(5);
        String[] texts = {"urn:x:1", " a b\r\nc\td ", "\u00e9\u20ac\ud83d\ude00", "", "x<!-- c -->y<![CDATA[ & ]]>&amp;<z>not</z>q"};
        String[] plain = {"urn:x:1", "abcd", "\u00e9\u20ac\ud83d\ude00", "", "xy&&q"};
        for (int i = 0; i < texts.length; i++) {
            key(texts[i], plain[i], 1100 + random.nextInt(100), random);
        }
        for (int n : new int[] {1, 54, 55, 56, 57, 62, 63, 64, 65, 118, 119, 120, 128, 1000, 3000}) {
            String text = "k".repeat(n);
            key(text, text, 100, random);
        }
        for (int size : new int[] {0, 1, 19, 20, 21, 1039, 1040, 1041, 3000}) {
            key("x", "x", size, random);
        }
    }

    private void key(String text, String plain, int size, Random random) throws Exception {
        Book book = data(METHOD + refer("E/i/pic.png")).swap(Book.PACK, "urn:x:1", text);
        byte[] bytes = new byte[size];
        random.nextBytes(bytes);
        Zip zip = book.zip();
        zip.entries.set(5, new Zip().stored(Book.PICTURE, bytes));
        Desk desk = new Desk();
        desk.check(zip.bytes());
        byte[] key = MessageDigest.getInstance("SHA-1").digest(Zip.utf8(plain));
        int wrong = 0;
        for (int k = 0; k < size; k++) {
            int want = bytes[k] & 255 ^ (k < 1040 ? key[k % 20] & 255 : 0);
            wrong += desk.resource(5, k) == want ? 0 : 1;
        }
        due.is("bytes turned back by a key of " + plain.length() + ", size " + size, wrong, 0);
        due.is("behind the last", desk.resource(5, size), EpubDesk.NONE);
        due.is("another entry's bytes", desk.resource(0, 0), 'a');
    }

    private void rootsBeside() {
        String right = "xmlns='urn:oasis:names:tc:opendocument:xmlns:container'";
        for (String root : new String[] {"<Encryption " + right + "/>", "<encryption/>",
            "<encryption xmlns='http://www.w3.org/2001/04/xmlenc#'/>", "<container " + right + "/>",
            "<encryption xmlns='urn:oasis:names:tc:opendocument:xmlns:containers'/>"}) {
            whole(root).due(due, root, "80 META-INF/encryption.xml <");
        }
        whole("<c:encryption " + right.replace("xmlns=", "xmlns:c=") + "/>").due(due, "by a prefix");
        whole("<!-- c -->\n <x " + right + " xmlns:x='http://www.w3.org/2001/04/xmlenc#'><x:EncryptedData/></x>")
            .due(due, "then nothing else", "80 META-INF/encryption.xml <x ");
        whole(OPEN + "text<y/></encryption>").due(due, "others in it");
        new Book().put("META-INF/Encryption.xml", "<").put("encryption.xml", "<").due(due, "others beside it", "90 encryption.xml");
    }

    private void dataBeside() {
        String data = "<x:EncryptedData/>";
        whole(OPEN + "<y>" + data + "</y></encryption>").due(due, "one deeper");
        whole(OPEN + "<EncryptedData/><x:encryptedData/><x:EncryptedKey/><z:EncryptedData xmlns:z='http://www.w3.org/2001/04/xmlenc'/></encryption>").due(due, "others");
        whole(OPEN + data + "<x:EncryptedData><x:EncryptedData/></x:EncryptedData>" + data + "</encryption>")
            .due(due, "each is told, but not those within", "81 " + AT, "81 " + AT + ">><x:EncryptedData>", "81 " + AT
                + ">><x:EncryptedData>>><x:EncryptedData>><x:EncryptedData");
    }

    private void algorithms() {
        String right = "http://www.idpf.org/2008/embedding";
        for (String algorithm : new String[] {"", right + "/", right.toUpperCase(), " " + right, right + " ",
            "http://www.idpf.org/2008/embeddin", "http://ns.adobe.com/pdf/enc#RC"}) {
            data("<x:EncryptionMethod Algorithm='" + algorithm + "'/>" + refer("E/i/pic.png"))
                .due(due, "algorithm [" + algorithm + "]", "81 " + AT);
        }
        data("<x:EncryptionMethod algorithm='" + right + "'/>" + refer("E/i/pic.png")).due(due, "another attribute", "81 " + AT);
        data("<x:EncryptionMethod x:Algorithm='" + right + "'/>" + refer("E/i/pic.png"))
            .due(due, "an attribute of a namespace", "81 " + AT);
        data("<x:encryptionMethod Algorithm='" + right + "'/>" + refer("E/i/pic.png")).due(due, "another element", "81 " + AT);
        data("<x:EncryptionMethod Algorithm='http&#58;//www.idpf.org/2008/embedding'>t<y/></x:EncryptionMethod>" + refer("E/i/pic.png"))
            .due(due, "with a reference, and more in it");
        whole(OPEN + "<x:EncryptedData/>" + METHOD + "</encryption>").due(due, "a method right behind the data", "81 " + AT);
        data("<x:EncryptionMethod/>" + METHOD + refer("q")).due(due, "81, and so not 82", "81 " + AT);
        data(METHOD + "<x:EncryptionMethod/>" + refer("E/i/pic.png")).due(due, "the second isn't looked at");
    }

    private void uris() {
        for (String uri : new String[] {"", " ", "/E/i/pic.png", "E/i/pic.png?", "../E/i/pic.png", "i/pic.png",
            "META-INF/../../E/i/pic.png", "E/i/Pic.png", "E/i%2Fpic.png", "x:E/i/pic.png", ".", "E/..", "E/i", "%", "E/i/pic.png#%"}) {
            data(METHOD + refer(uri)).due(due, "URI [" + uri + "]", "82 " + AT);
        }
        for (String uri : new String[] {"E/i/pic.png", "./E/i/pic.png", "E/x/../i/pic.png", "META-INF/../E/i/pic.png", "E/i/pic.png#x",
            "E/i/pic.png/", "%45/i/pic.png"}) {
            marks("URI " + uri, data(METHOD + refer(uri)), "E/i/pic.png");
        }
        for (String uri : new String[] {"#", "#x", "META-INF/encryption.xml"}) {
            marks("its own, " + uri, data(METHOD + refer(uri)), "META-INF/encryption.xml");
        }
        String far = "<x:CipherData><y><x:CipherReference URI='E/i/pic.png'/></y></x:CipherData>";
        data(METHOD + far).due(due, "a reference deeper", "82 " + AT);
        data(METHOD + "<y>" + refer("E/i/pic.png") + "</y>").due(due, "data deeper", "82 " + AT);
        data(METHOD + "<x:CipherData><x:CipherValue/></x:CipherData>" + refer("E/i/pic.png")).due(due, "only the first data", "82 " + AT);
        data(METHOD + "<x:CipherData/><x:CipherReference URI='E/i/pic.png'/>").due(due, "a reference right behind its data", "82 " + AT);
        whole(OPEN + "<x:EncryptedData>" + METHOD + "</x:EncryptedData>" + refer("E/i/pic.png") + "</encryption>")
            .due(due, "data right behind", "82 " + AT);
        marks("the first reference", data(METHOD
            + "<x:CipherData><y/><x:CipherReference URI='mimetype'/><x:CipherReference URI='E/i/pic.png'/></x:CipherData>"), "mimetype");
        marks("the first data", data(METHOD + "<y/>" + refer("mimetype") + refer("E/i/pic.png")), "mimetype");
        marks("none that is missing", data(METHOD + refer("q")), "");
    }

    private void notRead() {
        for (int i = 0; i < 2; i++) {
            Zip zip = data(METHOD + refer("E/i/pic.png")).zip();
            // The encryption itself, then the package.
            zip.entries.get(i == 0 ? 6 : 2).flags = 1;
            Desk desk = new Desk();
            due.is("not read, " + i, desk.report(zip.bytes()), i == 0 ? "13@6:0:0" : "13@2:0:0");
            due.is("not read, " + i + ": nothing is obfuscated", desk.about(7) + desk.entry(5, 5), 0);
        }
        Zip zip = data(METHOD + refer("E/i/pic.png")).zip();
        zip.entries.get(5).sum++;
        zip.entries.get(5).localSum++;
        Desk desk = new Desk();
        due.is("an obfuscated entry that isn't read", desk.report(zip.bytes()), "18@5:0:0");
        due.is("it counts", desk.about(7), 1);
        due.is("it is marked", desk.entry(5, 5), 1);
        due.is("it has no bytes", desk.resource(5, 0), EpubDesk.NONE);
    }

    private void identifiers() throws Exception {
        String pic = METHOD + refer("E/i/pic.png");
        marks("51: no unique-identifier", data(pic).swap(Book.PACK, "unique-identifier='uid'", ""), "");
        marks("51: no such id", data(pic).swap(Book.PACK, "unique-identifier='uid'", "unique-identifier='q'"), "");
        marks("51: the id of another", data(pic).swap(Book.PACK, "unique-identifier='uid'", "unique-identifier='nav'"), "");
        marks("50", data(pic).swap(Book.PACK, "version='3.0'", ""), "");
        marks("52", data(pic).swap(Book.PACK, "<manifest>", "<x/><manifest>"), "");
        marks("30", data(pic).put(Book.PACK, "<"), "");
        marks("31", data(pic).swap(Book.PACK, "<manifest>", "<x>".repeat(20) + "</x>".repeat(20) + "<manifest>"), "");
        marks("40", data(pic).swap(Book.CONTAINER, "version='1.0'", ""), "");
        marks("41", data(pic).swap(Book.CONTAINER, "oebps", "x"), "");
        marks("42", data(pic).swap(Book.CONTAINER, "E/p.opf", "x"), "");
        marks("22", data(pic).drop(Book.CONTAINER), "");
        marks("55: an identifier without a text", data(pic).swap(Book.PACK, "urn:x:1", " "), "E/i/pic.png");
        marks("58, 53 and others don't matter", data(pic).swap(Book.PACK, "<dc:title>T</dc:title>", "<x id='nav'/>"), "E/i/pic.png");
        // Of two with this id the first is the identifier.
        Book two = data(pic).swap(Book.PACK, "<dc:title>", "<dc:identifier id='uid'>other</dc:identifier><dc:title>");
        turned("the first identifier", two, "urn:x:1");
        Book ahead = data(pic).swap(Book.PACK, "<dc:identifier id",
            "<dc:identifier>no</dc:identifier><dc:title id='uid'>no</dc:title><dc:identifier id");
        turned("the first identifier with the id", ahead, "urn:x:1");
        turned("an identifier whose id is empty", data(pic).swap(Book.PACK, "unique-identifier='uid'", "unique-identifier=''")
            .swap(Book.PACK, "id='uid'", "id=''"), "urn:x:1");
        turned("all four blanks are left out", data(pic).swap(Book.PACK, "urn:x:1", "\t u\nr\r\nn &#13;&#10;&#9;&#32;<![CDATA[ : ]]>"),
            "urn:");
        turned("other blanks stay", data(pic).swap(Book.PACK, "urn:x:1", "\u00a0x\u3000"), "\u00a0x\u3000");
        turned("no text at all", data(pic).swap(Book.PACK, "urn:x:1", " \n "), "");
        turned("texts of inner elements aren't its own", data(pic).swap(Book.PACK, "urn:x:1", "a<x>no</x>b"), "ab");
    }

    /** The picture's bytes as they come out, by the key of this text. */
    private void turned(String what, Book book, String key) throws Exception {
        Desk desk = new Desk();
        desk.check(book.bytes());
        byte[] sum = MessageDigest.getInstance("SHA-1").digest(Zip.utf8(key));
        String text = "picture";
        for (int k = 0; k < text.length(); k++) {
            due.is(what + ": byte " + k, desk.resource(5, k), text.charAt(k) ^ sum[k] & 255);
        }
    }

    /** Bytes are looked at as they are: an obfuscated page is parsed as it stands, and so are all the others. */
    private void asTheyAre() throws Exception {
        for (String name : new String[] {"mimetype", Book.CONTAINER, Book.PACK, Book.NAV, Book.PAGE, Book.PICTURE, Book.ENCRYPTION}) {
            Book book = data(METHOD + refer(name));
            book.due(due, name + " is obfuscated");
            Desk desk = new Desk();
            desk.check(book.bytes());
            due.is(name + " is marked", desk.entry(book.entry(name), 5), 1);
            byte[] key = MessageDigest.getInstance("SHA-1").digest(Zip.utf8("urn:x:1"));
            due.is(name + "'s first byte", desk.resource(book.entry(name), 0), book.files.get(name).charAt(0) ^ key[0] & 255);
            due.is(name + ": contents", desk.about(5), 3);
        }
    }

    private void manyTimes() throws Exception {
        String one = "<x:EncryptedData>" + METHOD + refer("E/i/pic.png") + "</x:EncryptedData>";
        for (int times = 1; times <= 4; times++) {
            Desk desk = new Desk();
            desk.check(whole(OPEN + one.repeat(times) + "</encryption>").bytes());
            due.is("told " + times + " times", desk.about(7), 1);
            due.yes("turned once", desk.resource(5, 0) != 'p');
            due.is("turned by the same", desk.resource(5, 0),
                'p' ^ MessageDigest.getInstance("SHA-1").digest(Zip.utf8("urn:x:1"))[0] & 255);
        }
        Desk desk = new Desk();
        desk.check(whole(OPEN + one + one.replace("E/i/pic.png", "mimetype") + one.replace("E/i/pic.png", "E/p.opf")
            + "</encryption>").bytes());
        due.is("three", desk.about(7), 3);
        desk.check(new Book().bytes());
        due.is("none in the archive behind", desk.about(7), 0);
        due.is("its bytes", desk.resource(5, 0), 'p');
    }

    /** Keys of every length around the border of a block, and resources around 1040 bytes. */
    private void lengths() throws Exception {
        Random random = new Random(11);
        for (int n = 0; n <= 130; n++) {
            String text = "\u00e9".repeat(n % 2) + "k".repeat(n);
            key(text, text, 40, random);
        }
        for (int size : new int[] {1038, 1039, 1040, 1041, 1042, 1060, 6000}) {
            key("urn:y", "urn:y", size, random);
        }
        key("abc", "abc", 20, random);
    }
}
