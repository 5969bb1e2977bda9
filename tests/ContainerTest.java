/** The container, and what is known of the package by it. */
public final class ContainerTest {
    private static final String OPEN = "<container xmlns='urn:oasis:names:tc:opendocument:xmlns:container' version='1.0'>";
    private static final String TYPE = "media-type='application/oebps-package+xml'";

    public static void main(String[] args) {
        Due due = new Due();
        new Book().drop(Book.CONTAINER).due(due, "no container", "22 -");
        String[] roots = {"<x xmlns='urn:oasis:names:tc:opendocument:xmlns:container' version='1.0'/>", "<container version='1.0'/>",
            "<container xmlns='u' version='1.0'/>", OPEN.replace("1.0", "1.1") + "</container>", OPEN.replace(" version='1.0'", "")
                + "</container>",
            OPEN.replace("1.0", " 1.0") + "</container>",
            OPEN.replace("version", "p:version").replace(" p:", " xmlns:p='urn:oasis:names:tc:opendocument:xmlns:container' p:")
                + "</container>"};
        for (String root : roots) {
            new Book().put(Book.CONTAINER, root).due(due, root, "40 META-INF/container.xml <");
        }
        String[] empty = {"", "<rootfiles/>", "<rootfile full-path='E/p.opf' " + TYPE + "/>",
            "<rootfiles><rootfile full-path='E/p.opf' media-type='x'/></rootfiles>",
                "<rootfiles><rootfile full-path='E/p.opf'/></rootfiles>",
            "<rootfiles xmlns='u'><rootfile full-path='E/p.opf' " + TYPE + "/></rootfiles>",
            "<rootfiles><rootfile xmlns='u' full-path='E/p.opf' " + TYPE + "/></rootfiles>",
            "<x><rootfiles><rootfile full-path='E/p.opf' " + TYPE + "/></rootfiles></x>", "<x><rootfile full-path='E/p.opf' " + TYPE
                + "/></x>",
            "<rootfiles/><rootfile full-path='E/p.opf' " + TYPE + "/>",
            "<q:rootfiles xmlns:q='u'><rootfile full-path='E/p.opf' " + TYPE + "/></q:rootfiles>",
            "<rootfiles><x><rootfile full-path='E/p.opf' " + TYPE + "/></x></rootfiles>"};
        for (String text : empty) {
            new Book().put(Book.CONTAINER, OPEN + text + "</container>").due(due, "container of " + text, "41 META-INF/container.xml <");
        }
        new Book().swap(Book.CONTAINER, "full-path='E/p.opf' ", "").due(due, "no full-path", "42 META-INF/container.xml <rootfile media");
        new Book().swap(Book.CONTAINER, "E/p.opf", "../p").due(due, "a bad path", "42 META-INF/container.xml <rootfile full");
        new Book().swap(Book.CONTAINER, "E/p.opf", "p.opf").due(due, "a missing package", "42 META-INF/container.xml <rootfile full");
        new Book().swap(Book.CONTAINER, "<rootfile ", "<rootfile full-path='gone' media-type='x'/><rootfile ")
            .due(due, "the first of its type counts");
        new Book().swap(Book.CONTAINER, "<rootfiles>", "<rootfiles/><x/><rootfiles>").due(due, "several rootfiles");
        new Book().swap(Book.CONTAINER, "<rootfile ", "<rootfile full-path='gone' " + TYPE + "/><rootfile ")
            .due(due, "only the first is looked at", "42 META-INF/container.xml <rootfile full");
        new Book().swap(Book.CONTAINER, "<rootfiles>",
            "<rootfiles><q:rootfile xmlns:q='urn:oasis:names:tc:opendocument:xmlns:container' full-path='E/p.opf' "
            + TYPE + "/>").due(due, "a prefix is as good");
        firstEntry(due);
        abouts(due);
        versions(due);
        rootfiles(due);
        nothingElse(due);
        notRead(due);
        due.close();
    }

    private static void firstEntry(Due due) {
        Zip zip = new Zip();
        zip.stored("p.opf", Zip.utf8("<x/>"));
        zip.stored(Book.CONTAINER, Zip.utf8(new Book().files.get(Book.CONTAINER).replace("E/p.opf", "p.opf")));
        Desk desk = new Desk();
        due.is("the first entry as the package", desk.report(zip.bytes()), "20@-1:0:0 50@0:1:1");
        due.is("its entry", desk.about(2), 0);
        zip = new Zip();
        zip.stored(Book.CONTAINER, Zip.utf8("<x/>"));
        due.is("the first entry as the container", desk.report(zip.bytes()), "20@-1:0:0 40@0:1:1");
    }

    private static void abouts(Due due) {
        Desk desk = new Desk();
        desk.check(new Book().swap(Book.CONTAINER, "version='1.0'", "version='2'").bytes());
        due.is("about with 40", desk.about(), "6 6 -1 -1 0 0 0 0 0");
        desk.check(new Book().put(Book.CONTAINER, "<a>").bytes());
        due.is("about with 30", desk.about(), "6 6 -1 -1 0 0 0 0 0");
        desk.check(new Book().swap(Book.PACK, "</package>", "").bytes());
        due.is("about with 30 of the package", desk.about(), "6 6 2 -1 0 0 0 0 0");
        desk.check(new Book().swap(Book.PACK, "version='3.0'", "version='2.0'").bytes());
        due.is("about with 50", desk.about(), "6 6 2 -1 0 0 0 0 13");
        Zip zip = new Book().zip();
        zip.entries.get(2).flags = 1;
        desk.check(zip.bytes());
        due.is("about with a package that isn't read", desk.about(), "6 5 2 -1 0 0 0 0 0");
        due.is("its report", desk.report(), "13@2:0:0");
        zip = new Book().zip();
        zip.entries.get(1).flags = 1;
        desk.check(zip.bytes());
        due.is("about with a container that isn't read", desk.about(), "6 5 -1 -1 0 0 0 0 0");
        due.is("its report", desk.report(), "13@1:0:0");
    }


    private static void versions(Due due) {
        for (String version : new String[] {"", "1", "1.", "1.00", "01.0", " 1.0", "1.0 ", "1.1", "2.0"}) {
            new Book().swap(Book.CONTAINER, "version='1.0'", "version='" + version + "'")
                .due(due, "version [" + version + "]", "40 META-INF/container.xml <");
        }
        new Book().swap(Book.CONTAINER, "version='1.0'", "version='&#49;.0'").due(due, "a version by a reference");
        new Book().swap(Book.CONTAINER, "<container", "\n  <container").swap(Book.CONTAINER, "version='1.0'", "")
            .due(due, "at the root, wherever it is", "40 META-INF/container.xml <container");
    }

    private static void rootfiles(Due due) {
        for (String type : new String[] {"", "application/oebps-package", "application/oebps-package+xml ", "Application/oebps-package+xml",
            "application/oebps-package+xmlx"}) {
            new Book().swap(Book.CONTAINER, "application/oebps-package+xml", type)
                .due(due, "media-type [" + type + "]", "41 META-INF/container.xml <");
        }
        new Book().swap(Book.CONTAINER, "<rootfiles>", "<rootfiles/><rootfiles><rootfile/></rootfiles><rootfiles>")
            .due(due, "one in the third rootfiles");
        new Book().swap(Book.CONTAINER, "<rootfiles>", "<rootfiles><rootfile " + TYPE + "/></rootfiles><rootfiles>")
            .due(due, "the first one has no path", "42 META-INF/container.xml <rootfile media");
        new Book().swap(Book.CONTAINER, "</rootfiles>", "<rootfile full-path='..' " + TYPE + "/><rootfile " + TYPE + "/></rootfiles>")
            .due(due, "the others aren't looked at");
        new Book().swap(Book.CONTAINER, "</rootfiles>", "</rootfiles><links/><x:y xmlns:x='u'/>").due(due, "nor is anything else");
        for (String path : new String[] {"", "/E/p.opf", "E/p.opf?", "E/ p.opf", "../E/p.opf", "E/p.op", "E/P.opf", "META-INF/p.opf",
            "E%2Fp.opf", "x:E/p.opf", "."}) {
            new Book().swap(Book.CONTAINER, "E/p.opf", path).due(due, "full-path [" + path + "]",
                "42 META-INF/container.xml <rootfile full");
        }
        for (String path : new String[] {"./E/p.opf", "E/./p.opf", "x/../E/p.opf", "E/p.opf#x", "%45/p.opf", "E/p.opf/"}) {
            new Book().swap(Book.CONTAINER, "E/p.opf", path).due(due, "full-path [" + path + "]");
        }
    }

    /** With 40, 41 or 42 nothing of the book is told. */
    private static void nothingElse(Due due) {
        String[][] changes = {{"version='1.0'", "", "40", "<"}, {"oebps", "x", "41", "<"}, {"E/p.opf", "q", "42", "<rootfile full"}};
        for (String[] change : changes) {
            Book book = new Book().put(Book.PACK, "<").put(Book.NAV, "<").put(Book.PAGE, "<").put("x", "");
            book.swap(Book.CONTAINER, change[0], change[1]).due(due, "nothing else with " + change[2], change[2]
                + " META-INF/container.xml " + change[3]);
        }
        new Book().put(Book.PACK, "<").put(Book.PAGE, "<").drop(Book.CONTAINER).due(due, "nothing else with 22", "22 -");
    }

    private static void notRead(Due due) {
        int[] codes = {13, 14, 15, 16, 17, 18};
        for (int code : codes) {
            Zip zip = new Book().zip();
            Zip.Entry e = zip.entries.get(1);
            switch (code) {
                case 13 -> e.flags = 1;
                case 14 -> e.method = 1;
                case 15 -> e.localSum++;
                case 16 -> { e.packed = 99999; e.localPacked = 99999; }
                case 17 -> { e.size++; e.localSize++; }
                default -> { e.sum++; e.localSum++; }
            }
            Desk desk = new Desk();
            due.is("a container with " + code, desk.report(zip.bytes()), code + "@1:0:0");
            due.is("no package then", desk.about(2), EpubDesk.NONE);
        }
    }
}
