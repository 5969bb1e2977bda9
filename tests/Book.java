import java.util.ArrayList;
import java.util.LinkedHashMap;
import java.util.List;
import java.util.Map;

/** A small book that is right; tests swap parts of it for wrong ones. */
final class Book {
    static final String CONTAINER = "META-INF/container.xml";
    static final String ENCRYPTION = "META-INF/encryption.xml";
    static final String PACK = "E/p.opf";
    static final String NAV = "E/nav.xhtml";
    static final String PAGE = "E/t/page.xhtml";
    static final String PICTURE = "E/i/pic.png";

    final Map<String, String> files = new LinkedHashMap<>();

    Book() {
        files.put("mimetype", "application/epub+zip");
        files.put(CONTAINER, "<container xmlns='urn:oasis:names:tc:opendocument:xmlns:container' version='1.0'>\n"
            + "<rootfiles>\n<rootfile full-path='E/p.opf' media-type='application/oebps-package+xml'/>\n"
            + "</rootfiles>\n</container>");
        files.put(PACK, "<package xmlns='http://www.idpf.org/2007/opf' version='3.0' unique-identifier='uid'>\n"
            + "<metadata xmlns:dc='http://purl.org/dc/elements/1.1/'>\n"
            + "<dc:identifier id='uid'>urn:x:1</dc:identifier>\n<dc:title>T</dc:title>\n<dc:language>en</dc:language>\n"
            + "<meta property='dcterms:modified'>2024-02-29T23:59:59Z</meta>\n</metadata>\n"
            + "<manifest>\n<item id='nav' href='nav.xhtml' media-type='application/xhtml+xml' properties='nav'/>\n"
            + "<item id='page' href='t/page.xhtml' media-type='application/xhtml+xml'/>\n"
            + "<item id='pic' href='i/pic.png' media-type='image/png'/>\n</manifest>\n"
            + "<spine>\n<itemref idref='nav'/>\n<itemref idref='page'/>\n</spine>\n</package>");
        files.put(NAV, "<html xmlns='http://www.w3.org/1999/xhtml' xmlns:epub='http://www.idpf.org/2007/ops'>\n<body>\n"
            + "<nav epub:type='toc'>\n<h1>H</h1>\n<ol>\n<li><a href='t/page.xhtml#x'>One</a></li>\n"
            + "<li><span>Part</span><ol><li><a href='#'>Two</a></li></ol></li>\n</ol>\n</nav>\n</body>\n</html>");
        files.put(PAGE, "<html xmlns='http://www.w3.org/1999/xhtml'>\n<body>\n<img src='../i/pic.png'/>\n"
            + "<a href='../nav.xhtml'>up</a>\n</body>\n</html>");
        files.put(PICTURE, "picture");
    }

    Book put(String name, String text) {
        files.put(name, text);
        return this;
    }

    Book drop(String name) {
        files.remove(name);
        return this;
    }

    /** Swaps a piece of a file's text; it has to be there. */
    Book swap(String name, String from, String to) {
        String text = files.get(name);
        if (!text.contains(from)) {
            throw new IllegalStateException(name + " has no " + from);
        }
        files.put(name, text.replace(from, to));
        return this;
    }

    /** Adds an item to the package, behind the others. */
    Book item(String attributes) {
        return swap(PACK, "</manifest>", "<item " + attributes + "/>\n</manifest>");
    }

    Book meta(String attributes, String text) {
        return swap(PACK, "</metadata>", "<meta " + attributes + ">" + text + "</meta>\n</metadata>");
    }

    Zip zip() {
        Zip zip = new Zip();
        for (Map.Entry<String, String> file : files.entrySet()) {
            byte[] data = Zip.utf8(file.getValue());
            if (file.getKey().equals("mimetype")) {
                zip.stored(file.getKey(), data);
            } else {
                zip.deflated(file.getKey(), data);
            }
        }
        return zip;
    }

    byte[] bytes() {
        return zip().bytes();
    }

    int entry(String name) {
        int i = new ArrayList<>(files.keySet()).indexOf(name);
        if (i < 0) {
            throw new IllegalStateException("no entry " + name);
        }
        return i;
    }

    /**
     * Looks at the report of this book. A message that is due: its code, its entry (- for none), and the text at
     * which it stands, the first of the kind behind a position that "piece>>text" may tell first; none for 0:0.
     */
    void due(Due due, String what, String... messages) {
        Desk desk = new Desk();
        desk.check(bytes());
        due.is(what, desk.report(), expected(messages));
    }

    String expected(String... messages) {
        List<long[]> keys = new ArrayList<>();
        for (String message : messages) {
            String[] parts = message.split(" ", 3);
            int entry = parts[1].equals("-") ? -1 : entry(parts[1]);
            int[] place = parts.length < 3 ? new int[2] : place(files.get(parts[1]), parts[2]);
            keys.add(new long[] {entry, place[0], place[1], Integer.parseInt(parts[0])});
        }
        keys.sort((a, b) -> java.util.Arrays.compare(a, b));
        StringBuilder all = new StringBuilder();
        for (long[] key : keys) {
            all.append(all.length() == 0 ? "" : " ").append(key[3]).append('@').append(key[0]).append(':')
                .append(key[1]).append(':').append(key[2]);
        }
        return all.toString();
    }

    private static int[] place(String text, String piece) {
        int from = 0;
        String[] steps = piece.split(">>");
        for (int i = 0; i < steps.length; i++) {
            from = text.indexOf(steps[i], from + (i > 0 ? steps[i - 1].length() : 0));
            if (from < 0) {
                throw new IllegalStateException("no " + piece);
            }
        }
        int line = 1;
        int column = 1;
        for (int i = 0; i < from; i += Character.charCount(text.codePointAt(i))) {
            boolean over = text.charAt(i) == '\n';
            line += over ? 1 : 0;
            column = over ? 1 : column + 1;
        }
        return new int[] {line, column};
    }
}
