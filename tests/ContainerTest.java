/** The container, and what is known of the package by it. */
public final class ContainerTest {
    private static final String OPEN = "<container xmlns='urn:oasis:names:tc:opendocument:xmlns:container' version='1.0'>";
    private static final String TYPE = "media-type='application/oebps-package+xml'";

    public static void main(String[] args) {
        Due due = new Due();
        new Book().drop(Book.CONTAINER).due(due, "no container", "22 -");
        String[] roots = {"<x xmlns='urn:oasis:names:tc:opendocument:xmlns:container' version='1.0'/>", "<container version='1.0'/>",
            "<container xmlns='u' version='1.0'/>", OPEN.replace("1.0", "1.1") + "</container>", OPEN.replace(" version='1.0'", "") + "</container>",
            OPEN.replace("1.0", " 1.0") + "</container>",
            OPEN.replace("version", "p:version").replace(" p:", " xmlns:p='urn:oasis:names:tc:opendocument:xmlns:container' p:") + "</container>"};
        for (String root : roots) {
            new Book().put(Book.CONTAINER, root).due(due, root, "40 META-INF/container.xml <");
        }
        String[] empty = {"", "<rootfiles/>", "<rootfile full-path='E/p.opf' " + TYPE + "/>",
            "<rootfiles><rootfile full-path='E/p.opf' media-type='x'/></rootfiles>", "<rootfiles><rootfile full-path='E/p.opf'/></rootfiles>",
            "<rootfiles xmlns='u'><rootfile full-path='E/p.opf' " + TYPE + "/></rootfiles>",
            "<rootfiles><rootfile xmlns='u' full-path='E/p.opf' " + TYPE + "/></rootfiles>",
            "<x><rootfiles><rootfile full-path='E/p.opf' " + TYPE + "/></rootfiles></x>",
            "<rootfiles><x><rootfile full-path='E/p.opf' " + TYPE + "/></x></rootfiles>"};
        for (String text : empty) {
            new Book().put(Book.CONTAINER, OPEN + text + "</container>").due(due, "container of " + text, "41 META-INF/container.xml <");
        }
        new Book().swap(Book.CONTAINER, "full-path='E/p.opf' ", "").due(due, "no full-path", "42 META-INF/container.xml <rootfile media");
        new Book().swap(Book.CONTAINER, "E/p.opf", "../p").due(due, "a bad path", "42 META-INF/container.xml <rootfile full");
        new Book().swap(Book.CONTAINER, "E/p.opf", "p.opf").due(due, "a missing package", "42 META-INF/container.xml <rootfile full");
        new Book().swap(Book.CONTAINER, "<rootfile ", "<rootfile full-path='gone' media-type='x'/><rootfile ").due(due, "the first of its type counts");
        new Book().swap(Book.CONTAINER, "<rootfiles>", "<rootfiles/><x/><rootfiles>").due(due, "several rootfiles");
        new Book().swap(Book.CONTAINER, "<rootfile ", "<rootfile full-path='gone' " + TYPE + "/><rootfile ")
            .due(due, "only the first is looked at", "42 META-INF/container.xml <rootfile full");
        new Book().swap(Book.CONTAINER, "<rootfiles>", "<rootfiles><q:rootfile xmlns:q='urn:oasis:names:tc:opendocument:xmlns:container' full-path='E/p.opf' "
            + TYPE + "/>").due(due, "a prefix is as good");
        firstEntry(due);
        abouts(due);
        due.close();
    }

    private static void firstEntry(Due due) {
        Zip zip = new Zip();
        zip.stored("p.opf", Zip.utf8("<x/>"));
        zip.stored(Book.CONTAINER, Zip.utf8(new Book().files.get(Book.CONTAINER).replace("E/p.opf", "p.opf")));
        Desk desk = new Desk();
        due.is("the first entry as the package", desk.report(zip.bytes()), "20@-1:0:0 50@0:1:1");
        due.is("its entry", desk.about(2), 0);
        zip = new Zip();
        zip.stored(Book.CONTAINER, Zip.utf8("<x/>"));
        due.is("the first entry as the container", desk.report(zip.bytes()), "20@-1:0:0 40@0:1:1");
    }

    private static void abouts(Due due) {
        Desk desk = new Desk();
        desk.check(new Book().swap(Book.CONTAINER, "version='1.0'", "version='2'").bytes());
        due.is("about with 40", desk.about(), "6 6 -1 -1 0 0 0 0 0");
        desk.check(new Book().put(Book.CONTAINER, "<a>").bytes());
        due.is("about with 30", desk.about(), "6 6 -1 -1 0 0 0 0 0");
        desk.check(new Book().swap(Book.PACK, "</package>", "").bytes());
        due.is("about with 30 of the package", desk.about(), "6 6 2 -1 0 0 0 0 0");
        desk.check(new Book().swap(Book.PACK, "version='3.0'", "version='2.0'").bytes());
        due.is("about with 50", desk.about(), "6 6 2 -1 0 0 0 0 13");
        Zip zip = new Book().zip();
        zip.entries.get(2).flags = 1;
        desk.check(zip.bytes());
        due.is("about with a package that isn't read", desk.about(), "6 5 2 -1 0 0 0 0 0");
        due.is("its report", desk.report(), "13@2:0:0");
        zip = new Book().zip();
        zip.entries.get(1).flags = 1;
        desk.check(zip.bytes());
        due.is("about with a container that isn't read", desk.about(), "6 5 -1 -1 0 0 0 0 0");
        due.is("its report", desk.report(), "13@1:0:0");
    }
}
