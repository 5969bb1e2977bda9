import java.util.Arrays;

/** Promises 4 to 12 on books that are right, or nearly: what each call answers, its edges and wrong arguments. */
public final class AnswersTest {
    private static final int[] ODD = {Integer.MIN_VALUE, -2, -1, 9, 40, 41, 1000000, Integer.MAX_VALUE};

    public static void main(String[] args) {
        Due due = new Due();
        rightBook(due);
        messages(due);
        checkAgain(due);
        wrongArguments(due);
        aheadOfCheck(due);
        due.close();
    }

    private static void rightBook(Due due) {
        Book book = new Book();
        Desk desk = new Desk();
        due.is("check of a right book", desk.check(book.bytes()), 0);
        due.is("its report", desk.report(), "");
        due.is("about", desk.about(), "6 6 2 3 2 3 3 0 13");
        due.is("about(9)", desk.desk.about(9), EpubDesk.NONE);
        due.is("about(-1)", desk.desk.about(-1), EpubDesk.NONE);
        String page = book.files.get(Book.PAGE);
        due.is("size", desk.desk.entry(4, 0), page.length());
        due.is("packed", desk.desk.entry(4, 1), Zip.deflate(Zip.utf8(page)).length);
        due.is("method", desk.desk.entry(4, 2), 8);
        due.is("method of mimetype", desk.desk.entry(0, 2), 0);
        due.is("read", desk.desk.entry(4, 3), 1);
        due.is("length of the name", desk.desk.entry(4, 4), Book.PAGE.length());
        due.is("obfuscated", desk.desk.entry(4, 5), 0);
        due.is("entry(4, 6)", desk.desk.entry(4, 6), EpubDesk.NONE);
        due.is("entry(6, 0)", desk.desk.entry(6, 0), EpubDesk.NONE);
        due.is("name", desk.name(4), Book.PAGE);
        due.is("name(4, length)", desk.desk.name(4, Book.PAGE.length()), EpubDesk.NONE);
        due.yes("resource", Arrays.equals(desk.resource(4), Zip.utf8(page)));
        due.is("order", desk.order(), "E/nav.xhtml E/t/page.xhtml");
        due.is("contents", desk.contents(), "0>E/t/page.xhtml>One|0>->Part|1>E/nav.xhtml>Two");
        due.is("contents(0, 2)", desk.desk.contents(0, 2), 3);
        due.is("contents(0, 3)", desk.desk.contents(0, 3), -2);
        due.is("contents(0, -1)", desk.desk.contents(0, -1), -2);
        due.is("contents(3, 0)", desk.desk.contents(3, 0), -3);
        due.is("contents(3, 9)", desk.desk.contents(3, 9), -3);
        due.is("label(0, 0)", desk.desk.label(0, 0), 'O');
        due.is("label(0, 3)", desk.desk.label(0, 3), EpubDesk.NONE);
    }

    private static void messages(Due due) {
        Book book = new Book().put("stray", "x").swap(Book.PACK, "<dc:title>T</dc:title>", "");
        Desk desk = new Desk();
        due.is("check", desk.check(book.bytes()), 2);
        due.is("code", desk.desk.message(0, 0), 53);
        due.is("severity of an error", desk.desk.message(0, 1), 2);
        due.is("entry", desk.desk.message(0, 2), 2);
        due.is("line", desk.desk.message(0, 3), 2);
        due.is("column", desk.desk.message(0, 4), 1);
        due.is("message(0, 5)", desk.desk.message(0, 5), -2);
        due.is("message(0, -1)", desk.desk.message(0, -1), -2);
        due.is("message(2, 0)", desk.desk.message(2, 0), -3);
        due.is("message(2, 7)", desk.desk.message(2, 7), -3);
        due.is("code of the warning", desk.desk.message(1, 0), 90);
        due.is("its severity", desk.desk.message(1, 1), 3);
        due.is("its entry", desk.desk.message(1, 2), 6);
        due.is("its line", desk.desk.message(1, 3), 0);
        due.is("its column", desk.desk.message(1, 4), 0);
        due.is("check of nothing", desk.desk.check(), 1);
        due.is("fatal code", desk.desk.message(0, 0), 1);
        due.is("fatal severity", desk.desk.message(0, 1), 1);
        due.is("fatal entry", desk.desk.message(0, 2), EpubDesk.NONE);
    }

    /** A check takes the place of the one before, whole, and uses the input up. */
    private static void checkAgain(Due due) {
        Desk desk = new Desk();
        desk.check(new Book().bytes());
        due.is("nothing is left of the input", desk.desk.check(), 1);
        due.is("about behind a fatal one", desk.about(), "0 0 -1 -1 0 0 0 0 0");
        due.is("entry behind a fatal one", desk.desk.entry(0, 0), EpubDesk.NONE);
        due.is("name behind a fatal one", desk.desk.name(0, 0), EpubDesk.NONE);
        due.is("resource behind a fatal one", desk.desk.resource(0, 0), EpubDesk.NONE);
        due.is("order behind a fatal one", desk.desk.order(0), EpubDesk.NONE);
        due.is("contents behind a fatal one", desk.desk.contents(0, 0), -3);
        due.is("label behind a fatal one", desk.desk.label(0, 0), EpubDesk.NONE);
        byte[] plain = new Book().bytes();
        desk.check(plain);
        due.is("a right book behind it", desk.about(), "6 6 2 3 2 3 3 0 13");
        desk.desk.feed(1, 2, 3, 4, 5);
        desk.desk.check();
        due.yes("check leaves the tape", desk.desk.end(20));
        due.is("the cut-off bytes are checked", desk.desk.check(), 1);
        Zip empty = new Zip();
        due.is("an archive without entries", desk.report(empty.bytes()), "20@-1:0:0 22@-1:0:0");
        due.is("about it", desk.about(), "0 0 -1 -1 0 0 0 0 0");
    }

    private static void wrongArguments(Due due) {
        Desk desk = new Desk();
        desk.check(new Book().bytes());
        for (int i : ODD) {
            for (int k : ODD) {
                due.is("entry(" + i + ", " + k + ")", desk.desk.entry(i, k), EpubDesk.NONE);
                due.is("name(" + i + ", " + k + ")", desk.desk.name(i, k), EpubDesk.NONE);
                due.is("resource(" + i + ", " + k + ")", desk.desk.resource(i, k), EpubDesk.NONE);
                due.is("message(" + i + ", " + k + ")", desk.desk.message(i, k), -3);
                due.is("contents(" + i + ", " + k + ")", desk.desk.contents(i, k), -3);
                due.is("label(" + i + ", " + k + ")", desk.desk.label(i, k), EpubDesk.NONE);
            }
            due.is("order(" + i + ")", desk.desk.order(i), EpubDesk.NONE);
            due.is("about(" + i + ")", desk.desk.about(i), EpubDesk.NONE);
            due.is("name(0, " + i + ")", desk.desk.name(0, i), EpubDesk.NONE);
            due.is("resource(0, " + i + ")", desk.desk.resource(0, i), i == 9 ? 'o' : EpubDesk.NONE);
            due.is("label(0, " + i + ")", desk.desk.label(0, i), EpubDesk.NONE);
            due.is("contents(0, " + i + ")", desk.desk.contents(0, i), -2);
        }
    }

    private static void aheadOfCheck(Due due) {
        EpubDesk desk = new EpubDesk();
        for (int i = -1; i <= 9; i++) {
            due.is("about ahead of a check", desk.about(i), EpubDesk.NONE);
            due.is("message ahead of a check", desk.message(i, 0), -3);
            due.is("contents ahead of a check", desk.contents(i, 0), -3);
            due.is("entry ahead of a check", desk.entry(i, 0), EpubDesk.NONE);
            due.is("name ahead of a check", desk.name(i, 0), EpubDesk.NONE);
            due.is("resource ahead of a check", desk.resource(i, 0), EpubDesk.NONE);
            due.is("order ahead of a check", desk.order(i), EpubDesk.NONE);
            due.is("label ahead of a check", desk.label(i, 0), EpubDesk.NONE);
        }
    }
}
