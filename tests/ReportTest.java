/** The messages: their severities, that a fatal one is told alone, that each is told once, and their order. */
public final class ReportTest {
    private final Due due = new Due();

    public static void main(String[] args) {
        ReportTest test = new ReportTest();
        test.severities();
        test.fatalAlone();
        test.order();
        test.once();
        test.same();
        test.due.close();
    }

    /** The severity of the message with this code in the archive's report. */
    private void severity(int code, int want, byte[] archive) {
        Desk desk = new Desk();
        int n = desk.check(archive);
        boolean found = false;
        for (int i = 0; i < n; i++) {
            if (desk.message(i, 0) == code) {
                found = true;
                due.is("severity of " + code, desk.message(i, 1), want);
            }
        }
        due.yes("there is a message with code " + code, found);
    }

    private void severities() {
        Zip zip = new Zip();
        zip.firstDisk = 1;
        severity(1, 1, new byte[22]);
        severity(2, 1, zip.bytes());
        zip = new Zip();
        zip.stored("n".repeat(101), new byte[0]);
        severity(3, 1, zip.bytes());
        severity(10, 2, new Book().put("x/", "").bytes());
        severity(20, 2, new Zip().bytes());
        severity(58, 2, new Book().swap(Book.PACK, "<spine>", "<spine id='nav'>").bytes());
        severity(82, 2, new Book().put(Book.ENCRYPTION, "<encryption xmlns='urn:oasis:names:tc:opendocument:xmlns:container'>"
            + "<e:EncryptedData xmlns:e='http://www.w3.org/2001/04/xmlenc#'><e:EncryptionMethod Algorithm='http://www.idpf.org/2008/embedding'/></e:EncryptedData></encryption>").bytes());
        severity(90, 3, new Book().put("x", "").bytes());
    }

    /** Each of these archives has faults beside the fatal one. */
    private void fatalAlone() {
        Zip zip = new Zip();
        zip.stored("a/", new byte[1]).flags = 1;
        zip.stored("a/", new byte[1]).sum = 1;
        due.is("without a fatal one", new Desk().report(zip.bytes()), "20@-1:0:0 22@-1:0:0 10@0:0:0 13@0:0:0 10@1:0:0 11@1:0:0 15@1:0:0");
        zip.stored("n".repeat(101), new byte[0]);
        due.is("a limit", new Desk().report(zip.bytes()), "3@-1:0:0");
        zip.secondDisk = 1;
        due.is("a directory, ahead of the limits", new Desk().report(zip.bytes()), "2@-1:0:0");
        zip.behind = new byte[1];
        due.is("no archive, ahead of the directory", new Desk().report(zip.bytes()), "1@-1:0:0");
        Desk desk = new Desk();
        due.is("how many messages", desk.check(zip.bytes()), 1);
        due.is("about with a fatal one", desk.about(), "0 0 -1 -1 0 0 0 0 0");
    }

    /** By entry (none first), line, column, code, each as a number. */
    private void order() {
        Book book = new Book().drop("mimetype").put("y", "").put("x", "");
        book.put(Book.PAGE, "<html xmlns='http://www.w3.org/1999/xhtml'>\n\n\n\n\n\n\n\n<img/>          <a href=''/><img/>\n<img/>\n <img/><p/><img/></html>");
        book.swap(Book.PACK, "<dc:title>T</dc:title>", "").swap(Book.PACK, "<dc:language>en</dc:language>", "");
        book.swap(Book.PACK, "<metadata", "<metadata id='nav'").swap(Book.PACK, "2024-02-29", "2023-02-29");
        Desk desk = new Desk();
        desk.check(book.bytes());
        due.is("the order", desk.report(), "20@-1:0:0 53@1:2:1 54@1:2:1 56@1:2:1 58@1:9:1 "
            + "76@3:9:1 77@3:9:17 76@3:9:29 76@3:10:1 76@3:11:2 76@3:11:12 90@5:0:0 90@6:0:0");
        Zip zip = new Zip();
        for (int i = 0; i < 12; i++) {
            zip.stored("a" + (i == 11 ? 2 : i), new byte[0]).flags = i % 2;
        }
        due.is("entries above ten", new Desk().report(zip.bytes()),
            "20@-1:0:0 22@-1:0:0 13@1:0:0 13@3:0:0 13@5:0:0 13@7:0:0 13@9:0:0 11@11:0:0 13@11:0:0");
    }

    /** What two rules would tell at one place with one code is told once. */
    private void once() {
        new Book().swap(Book.NAV, "epub:type='toc'", "epub:type='toc page-list landmarks'").swap(Book.NAV, ">One<", "><")
            .due(due, "a nav that is three", "48 E/nav.xhtml <a href='t", "74 E/nav.xhtml <a href='t", "48 E/nav.xhtml <li><span",
                "48 E/nav.xhtml <a href='#'");
        Book book = new Book().put(Book.PAGE, "<html>").item("id='o' href='t/page.xhtml' media-type='application/smil+xml'");
        due.is("a page that is an overlay too", new Desk().report(book.bytes()), "61@2:12:1 30@4:1:7");
        book = new Book().item("id='c' href='../META-INF/container.xml' media-type='application/xhtml+xml'").swap(Book.CONTAINER,
            "</container>", "");
        due.is("a container that isn't parsed", new Desk().report(book.bytes()), "30@1:5:1");
        Book twice = new Book().put(Book.ENCRYPTION, "<a>")
            .item("id='c' href='../META-INF/encryption.xml' media-type='application/xhtml+xml'");
        due.is("an encryption that is a page too", new Desk().report(twice.bytes()), "30@6:1:4");
        new Book().swap(Book.PACK, "id='page'", "id='page' properties='x y z'")
            .due(due, "several wrong properties", "45 E/p.opf <item id='page'");
        new Book().swap(Book.PACK, "<dc:title>", "<dc:title id='uid'>").swap(Book.PACK, "<dc:language>", "<dc:language id='uid'>")
            .due(due, "an id that is there three times", "58 E/p.opf <dc:title", "58 E/p.opf <dc:language");
    }

    /** The same archive has the same report, on one object and on another. */
    private void same() {
        byte[] row = new Book().put("x", "").swap(Book.NAV, ">One<", "><").swap(Book.PACK, "<dc:title>T</dc:title>", "").bytes();
        Desk desk = new Desk();
        String first = desk.report(row);
        due.is("the same object again", desk.report(row), first);
        desk.report(new Book().put("y/", "").bytes());
        due.is("behind another archive", desk.report(row), first);
        due.is("another object", new Desk().report(row), first);
        due.is("the report", first, "53@2:2:1 74@3:6:5 90@6:0:0");
    }
}
