import java.util.LinkedHashMap;
import java.util.Map;

/** A check takes the place of the one before, whole: each of many archives behind each other one is told as on a new object. */
public final class LeftoverTest {
    private static final String OPS = "xmlns:e='http://www.idpf.org/2007/ops'";
    private static final String SMIL = "<smil xmlns='http://www.w3.org/ns/SMIL' version='3.0'>";
    private static final String ITEM = "id='o' href='o.smil' media-type='application/smil+xml'";
    private static final String METHOD = "<x:EncryptionMethod Algorithm='http://www.idpf.org/2008/embedding'/>";

    private final Due due = new Due();
    private final Map<String, byte[]> archives = new LinkedHashMap<>();

    public static void main(String[] args) {
        LeftoverTest test = new LeftoverTest();
        test.containers();
        test.packages();
        test.metas();
        test.items();
        test.navigations();
        test.overlays();
        test.encryptions();
        test.others();
        test.pairs();
        test.longTexts();
        test.answersStay();
        test.due.close();
    }

    private void put(String what, Book book) {
        archives.put(what, book.bytes());
    }

    private static Book alone(String container) {
        return new Book().drop(Book.PACK).drop(Book.NAV).drop(Book.PAGE).drop(Book.PICTURE).put(Book.CONTAINER, container);
    }

    private void containers() {
        String right = new Book().files.get(Book.CONTAINER);
        put("right", new Book());
        put("a container alone", alone(right));
        put("a container of its root", alone(right.replaceAll("(?s)<rootfiles>.*</rootfiles>", "")));
        put("a container of empty rootfiles", alone(right.replaceAll("(?s)<rootfiles>.*</rootfiles>", "<rootfiles/>")));
        put("a doctype", new Book().put(Book.CONTAINER, "<!DOCTYPE x>" + right).swap(Book.PACK, "<package", "<!DOCTYPE x><package")
            .swap(Book.NAV, "<html", "<!DOCTYPE x><html"));
    }

    private void packages() {
        put("50", new Book().swap(Book.PACK, "3.0", "2"));
        put("51", new Book().swap(Book.PACK, " unique-identifier='uid'", ""));
        put("52", new Book().swap(Book.PACK, "<spine>", "<x/><spine>"));
        put("30 of the package", new Book().put(Book.PACK, "<"));
        put("a package without items", new Book().put(Book.PACK,
            "<package xmlns='http://www.idpf.org/2007/opf' version='3.0'><metadata/><manifest/><spine/></package>"));
    }

    private void metas() {
        put("a ring of metas", new Book().meta("property='role' refines='#b' id='a'", "x").meta("property='role' refines='#a' id='b'",
            "x"));
        put("a meta and a title in its place", new Book().swap(Book.PACK, "</metadata>",
            "<dc:title id='a'>x</dc:title>\n<meta property='role' refines='#a' id='b'>x</meta></metadata>"));
        put("a lost refines", new Book().meta("property='role' refines='#c'", "x"));
    }

    private void items() {
        put("a missing item", new Book().item("id='z' href='z' media-type='x/y' fallback='y'")
            .item("id='y' href='y' media-type='x/y' fallback='z' properties='q'"));
        put("one item less", new Book().swap(Book.PACK, "<item id='pic' href='i/pic.png' media-type='image/png'/>\n", "").swap(Book.PACK,
            "idref='page'", "idref='pic'"));
        put("a cover", new Book().item("id='z' href='z' media-type='image/png' properties='cover-image x'").put("E/z", "")
            .item("id='w' href='w' media-type='x/y' properties='cover-image nav'"));
        put("the navigation first", turned(new Book()));
        put("the navigation first, and not in the spine", turned(new Book().swap(Book.PACK, "<itemref idref='nav'/>", "")));
        put("the page first", pageFirst(""));
        put("the page first, and wrong", pageFirst("<img/>"));
    }

    /** The same files with the navigation ahead of all others. */
    private static Book turned(Book book) {
        Map<String, String> old = new LinkedHashMap<>(book.files);
        book.files.clear();
        book.files.put(Book.NAV, old.get(Book.NAV));
        book.files.putAll(old);
        return book;
    }

    private static Book pageFirst(String inside) {
        Book book = new Book();
        Map<String, String> old = new LinkedHashMap<>(book.files);
        book.files.clear();
        book.files.put(Book.PAGE, "<html xmlns='http://www.w3.org/1999/xhtml'>" + inside + "</html>");
        old.remove(Book.PAGE);
        book.files.putAll(old);
        return book;
    }

    private static Book nav(String inside) {
        return new Book().swap(Book.PACK, "<item id='page' href='t/page.xhtml' media-type='application/xhtml+xml'/>", "").swap(Book.PACK,
            "<itemref idref='page'/>", "").drop(Book.PAGE)
            .put(Book.NAV, "<html xmlns='http://www.w3.org/1999/xhtml' " + OPS + ">" + inside + "</html>");
    }

    private void navigations() {
        String a = "<a href='#'>label</a>";
        put("a flat toc", nav("<nav e:type='toc'><ol><li>" + a + "</li><li>" + a + "</li><li>" + a + "</li></ol></nav>"));
        put("a flat toc without labels",
            nav("<nav e:type='toc'><ol><li><a href='#'/></li><li><a href='#'/></li><li><a href='#'/></li></ol></nav>"));
        put("a deep toc", nav("<nav e:type='toc'><ol><li>" + a + "<ol><li>" + a + "<ol><li>" + a + "</li></ol></li></ol></li></ol></nav>"));
        put("a toc with a wrong li", nav("<nav e:type='toc'><ol><li><p/><a><b><i/><b/></b></a><a><b/></a></li></ol></nav>"));
        put("a toc deeper", nav("<div><div><div><nav e:type='toc'><ol><li>" + a + "</li></ol></nav></div></div></div>"));
        put("a toc with spans in its a", nav("<nav e:type='toc'><h1/><ol><li><a href='#'><b/><b/><b/>x<b/></a></li></ol></nav>"));
        put("a nav without a toc", nav("<nav/>"));
        put("nothing in the navigation", nav(""));
        put("three navs", nav("<nav e:type='toc'><ol><li>" + a + "</li></ol></nav><nav e:type='landmarks'><ol><li>" + a
            + "</li></ol></nav><nav e:type='page-list'><ol><li>" + a + "</li></ol></nav>"));
        put("navs twice", nav("<nav e:type='toc page-list'><p/></nav><nav e:type='page-list toc'><p/></nav>"));
    }

    private static Book overlay(String text) {
        return new Book().item(ITEM).put("E/o.smil", text).meta("property='media:duration' refines='#o'", "5")
            .meta("property='media:duration'", "5");
    }

    private static Book overlayFirst(String inside) {
        Book book = overlay("");
        Map<String, String> old = new LinkedHashMap<>(book.files);
        book.files.clear();
        book.files.put("E/o.smil", SMIL + "<body>" + inside + "</body></smil>");
        old.remove("E/o.smil");
        book.files.putAll(old);
        return book;
    }

    private void overlays() {
        String par = "<par><text src='nav.xhtml'/><audio src='i/pic.png' clipEnd='5'/></par>";
        put("an overlay", overlay(SMIL + "<body>" + par + "<seq>" + par + "</seq></body></smil>"));
        put("a longer overlay", overlay(SMIL + "<head/><body>" + par + par + par + "</body></smil>"));
        put("an overlay with a wrong seq", overlay(SMIL + "<body><seq><x><text/><audio/></x><par><text/></par></seq><x/></body></smil>"));
        put("an overlay of nothing", overlay(SMIL + "</smil>"));
        put("an overlay of a head", overlay(SMIL + "<head/></smil>"));
        put("an overlay that is no overlay", overlay("<x/>"));
        put("an overlay first, and wrong", overlayFirst("<par/>"));
        put("an overlay first, and right", overlayFirst(par));
        put("durations without an overlay", new Book().meta("property='media:duration'", "5"));
    }

    private static Book encryption(String... names) {
        StringBuilder text = new StringBuilder("<encryption xmlns='urn:oasis:names:tc:opendocument:xmlns:container' xmlns:x='http://www.w3.org/2001/04/xmlenc#'>");
        for (String name : names) {
            text.append("<x:EncryptedData>").append(METHOD).append("<x:CipherData><x:CipherReference URI='").append(name).append("'/></x:CipherData></x:EncryptedData>");
        }
        return new Book().put(Book.ENCRYPTION, text + "</encryption>");
    }

    private void encryptions() {
        put("an obfuscated picture", encryption(Book.PICTURE));
        put("an obfuscated mimetype", encryption("mimetype"));
        put("an obfuscated page, another key", encryption(Book.PAGE, "mimetype").swap(Book.PACK, "urn:x:1", "urn:y:2"));
        put("obfuscated without an identifier", encryption(Book.PICTURE).swap(Book.PACK, " unique-identifier='uid'", ""));
        put("an encryption of nothing", encryption());
    }

    private void others() {
        archives.put("nothing", new byte[0]);
        archives.put("no entries", new Zip().bytes());
        Zip zip = new Zip();
        for (int i = 0; i < 40; i++) {
            zip.stored("n" + i, new byte[0]).flags = i % 2;
        }
        archives.put("forty entries", zip.bytes());
        zip.stored("more", new byte[0]);
        archives.put("too many entries", zip.bytes());
    }

    private static String all(Desk desk) {
        StringBuilder all = new StringBuilder(desk.report()).append('|').append(desk.about()).append('|').append(desk.contents()).append('|').append(desk.order());
        int n = desk.about(0);
        for (int i = 0; i < n; i++) {
            all.append('|').append(desk.name(i));
            for (int what = 0; what < 6; what++) {
                all.append(' ').append(desk.entry(i, what));
            }
            all.append(' ').append(desk.resource(i, 0)).append(' ').append(desk.resource(i, desk.entry(i, 0) - 1));
        }
        return all.toString();
    }

    private void pairs() {
        for (String second : archives.keySet()) {
            Desk fresh = new Desk();
            fresh.check(archives.get(second));
            String want = all(fresh);
            for (String first : archives.keySet()) {
                Desk desk = new Desk();
                desk.check(archives.get(first));
                desk.check(archives.get(second));
                due.is(second + ", behind: " + first, all(desk), want);
            }
        }
    }

    /** Texts of more than one document's bytes in all, on one object. */
    private void longTexts() {
        Book book = new Book().swap(Book.NAV, ">One<", ">" + "x".repeat(4000) + "<").swap(Book.PACK, "<dc:title>T<", "<dc:title>"
            + "y".repeat(3000) + "<");
        byte[] row = book.bytes();
        EpubDesk desk = new EpubDesk();
        int calls = 0;
        while (calls + row.length / 20 + 12 < 512) {
            calls += Desk.feed(desk, row) + 10;
            desk.end(row.length);
            due.is("a long book", desk.check(), 0);
            due.is("its label", desk.contents(0, 2), 4000);
            due.is("its label's last byte", desk.label(0, 3999), 'x');
            due.is("the label behind", desk.label(1, 0), 'P');
            due.is("the last label", desk.label(2, 2), 'o');
        }
        due.yes("it was checked several times", calls > 300);
    }

    /** What was checked stays what it is while the tape takes others, until the next check. */
    private void answersStay() {
        byte[] row = new Book().bytes();
        EpubDesk desk = new EpubDesk();
        Desk.feed(desk, row);
        desk.end(row.length);
        desk.check();
        for (int round = 0; round < 3; round++) {
            for (int i = 0; i < 40; i++) {
                desk.feed(-1, -1, -1, -1, -1);
            }
            due.is("a name stays, round " + round, desk.name(3, 0), 'E');
            due.is("its length stays", desk.entry(3, 4), 11);
            due.is("a size stays", desk.entry(5, 0), 7);
            due.is("bytes stay", desk.resource(5, 6), 'e');
            due.is("labels stay", desk.label(0, 0), 'O');
            due.is("contents stay", desk.contents(2, 1), 3);
            due.is("the order stays", desk.order(1), 4);
            due.is("about stays", desk.about(8), 13);
            desk.end(round == 1 ? 0 : 700);
            due.is("a name stays behind an end", desk.name(3, 2), 'n');
        }
        due.is("until the next check", desk.check(), 1);
        due.is("which takes its place", desk.name(3, 0), EpubDesk.NONE);
        Zip zip = new Zip();
        zip.stored("first", Zip.latin("abc"));
        zip.deflated("second", Zip.latin("defg"));
        EpubDesk other = new EpubDesk();
        Desk.feed(other, zip.bytes());
        other.end(zip.bytes().length);
        other.check();
        for (int round = 0; round < 4; round++) {
            // As many bytes as the archive has, so that all of it would be written over.
            for (int at = 0; at < zip.bytes().length; at += 20) {
                other.feed(-1, -1, -1, -1, -1);
            }
            due.is("a small archive's name stays, round " + round, other.name(1, 0), 's');
            due.is("its length stays", other.entry(1, 4), 6);
            due.is("a size stays", other.entry(1, 0), 4);
            due.is("a method stays", other.entry(1, 2), 8);
            due.is("whether it is read stays", other.entry(1, 3), 1);
            due.is("bytes stay", other.resource(1, 3), 'g');
            due.is("messages stay", other.message(0, 0), 20);
            due.yes("an end", other.end(100));
        }
    }
}
