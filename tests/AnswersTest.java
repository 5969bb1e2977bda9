import java.util.Arrays;

/** Promises 4 to 12 on books that are right, or nearly: what each call answers, its edges and wrong arguments. */
public final class AnswersTest {
    private static final int NONE = EpubDesk.NONE;
    private static final int[] ODD = {Integer.MIN_VALUE, -2, -1, 9, 40, 41, 1000000, Integer.MAX_VALUE};

    private final Due due = new Due();

    public static void main(String[] args) {
        AnswersTest test = new AnswersTest();
        test.rightBook();
        test.messages();
        test.abouts();
        test.aboutThePackage();
        test.aboutTheNavigation();
        test.entries();
        test.names();
        test.resources();
        test.orders();
        test.contents();
        test.labels();
        test.wrongArguments();
        test.aheadOfCheck();
        test.due.close();
    }

    private static Desk checked(Book book) {
        Desk desk = new Desk();
        desk.check(book.bytes());
        return desk;
    }

    private void rightBook() {
        Book book = new Book();
        Desk desk = new Desk();
        due.is("check of a right book", desk.check(book.bytes()), 0);
        due.is("its report", desk.report(), "");
        due.is("about", desk.about(), "6 6 2 3 2 3 3 0 13");
        String page = book.files.get(Book.PAGE);
        due.is("size", desk.entry(4, 0), page.length());
        due.is("packed", desk.entry(4, 1), Zip.deflate(Zip.utf8(page)).length);
        due.is("method", desk.entry(4, 2), 8);
        due.is("method of mimetype", desk.entry(0, 2), 0);
        due.is("read", desk.entry(4, 3), 1);
        due.is("length of the name", desk.entry(4, 4), Book.PAGE.length());
        due.is("obfuscated", desk.entry(4, 5), 0);
        due.is("name", desk.name(4), Book.PAGE);
        due.yes("resource", Arrays.equals(desk.resource(4), Zip.utf8(page)));
        due.is("order", desk.order(), "E/nav.xhtml E/t/page.xhtml");
        due.is("contents", desk.contents(), "0>E/t/page.xhtml>One|0>->Part|1>E/nav.xhtml>Two");
    }

    private void messages() {
        Desk desk = new Desk();
        due.is("check", desk.check(new Book().put("stray", "x").swap(Book.PACK, "<dc:title>T</dc:title>", "").bytes()), 2);
        int[][] want = {{53, 2, 2, 2, 1}, {90, 3, 6, 0, 0}};
        for (int i = 0; i < 2; i++) {
            for (int what = 0; what < 5; what++) {
                due.is("message(" + i + ", " + what + ")", desk.message(i, what), want[i][what]);
            }
            for (int what : new int[] {-1, 5, 6, Integer.MIN_VALUE, Integer.MAX_VALUE}) {
                due.is("message(" + i + ", " + what + ")", desk.message(i, what), -2);
            }
        }
        for (int i : new int[] {-1, 2, 3, Integer.MIN_VALUE, Integer.MAX_VALUE}) {
            for (int what = -1; what <= 5; what++) {
                due.is("message(" + i + ", " + what + "), looked at first", desk.message(i, what), -3);
            }
        }
        due.is("check of nothing", desk.checkNothing(), 1);
        int[] fatal = {1, 1, NONE, 0, 0};
        for (int what = 0; what < 5; what++) {
            due.is("a fatal one's " + what, desk.message(0, what), fatal[what]);
        }
        due.is("the one before isn't there", desk.message(1, 0), -3);
        Desk other = checked(new Book());
        due.is("no messages", other.message(0, 0), -3);
        due.is("no messages, another what", other.message(0, 9), -3);
    }

    private void abouts() {
        Desk desk = checked(new Book());
        for (int what : new int[] {-1, 9, 10, Integer.MIN_VALUE, Integer.MAX_VALUE}) {
            due.is("about(" + what + ")", desk.about(what), NONE);
        }
        Zip zip = new Zip();
        for (int i = 0; i < 40; i++) {
            zip.stored("a" + i, new byte[1]).flags = i % 4 == 0 ? 1 : 0;
        }
        desk.check(zip.bytes());
        due.is("forty entries, thirty of them read", desk.about(), "40 30 -1 -1 0 0 0 0 0");
        zip.stored("x", new byte[1]);
        desk.check(zip.bytes());
        due.is("none with a fatal one", desk.about(), "0 0 -1 -1 0 0 0 0 0");
        due.is("no entry with a fatal one", desk.entry(0, 0), NONE);
        due.is("no name with a fatal one", desk.name(0, 0), NONE);
        due.is("no bytes with a fatal one", desk.resource(1, 0), NONE);
    }

    private void pack(String what, Book book, String want) {
        due.is("about: " + what, checked(book).about(), want);
    }

    /** The package's entry is NONE with 22, 30, 31, 40 to 42 of the container, or if that isn't read. */
    private void aboutThePackage() {
        String none = "6 6 -1 -1 0 0 0 0 0";
        pack("22", new Book().drop(Book.CONTAINER), "5 5 -1 -1 0 0 0 0 0");
        pack("30 of the container", new Book().swap(Book.CONTAINER, "</container>", ""), none);
        pack("31 of the container", new Book().swap(Book.CONTAINER, "<rootfiles>", "<x>".repeat(20) + "</x>".repeat(20) + "<rootfiles>"),
            none);
        pack("40", new Book().swap(Book.CONTAINER, "version='1.0'", ""), none);
        pack("41", new Book().swap(Book.CONTAINER, "oebps", "oebp"), none);
        pack("42, without a path", new Book().swap(Book.CONTAINER, "full-path='E/p.opf'", ""), none);
        pack("42, bad", new Book().swap(Book.CONTAINER, "E/p.opf", "/E/p.opf"), none);
        pack("42, missing", new Book().swap(Book.CONTAINER, "E/p.opf", "E/q.opf"), none);
        pack("30 of the package", new Book().swap(Book.PACK, "</package>", ""), "6 6 2 -1 0 0 0 0 0");
        pack("31 of the package", new Book().swap(Book.PACK, "<spine>", "<x>".repeat(20) + "</x>".repeat(20) + "<spine>"),
            "6 6 2 -1 0 0 0 0 0");
        pack("50", new Book().swap(Book.PACK, "version='3.0'", ""), "6 6 2 -1 0 0 0 0 13");
        pack("52", new Book().swap(Book.PACK, "<spine>", "<x/><spine>"), "6 6 2 -1 0 0 0 0 14");
        pack("51", new Book().swap(Book.PACK, "unique-identifier='uid'", ""), "6 6 2 3 2 3 3 0 13");
        pack("300 elements", new Book().swap(Book.PACK, "</spine>", "</spine>" + "<x/>".repeat(287)), "6 6 2 3 2 3 3 0 300");
        pack("301 elements", new Book().swap(Book.PACK, "</spine>", "</spine>" + "<x/>".repeat(288)), "6 6 2 -1 0 0 0 0 0");
        pack("items with 57", new Book().item("id='z'").item("id='y' href='y' media-type='x/y'"), "6 6 2 3 2 3 4 0 15");
        Zip zip = new Book().zip();
        zip.entries.get(1).flags = 1;
        Desk desk = new Desk();
        desk.check(zip.bytes());
        due.is("a container that isn't read", desk.about(), "6 5 -1 -1 0 0 0 0 0");
        zip = new Book().zip();
        zip.entries.get(2).flags = 1;
        desk.check(zip.bytes());
        due.is("a package that isn't read", desk.about(), "6 5 2 -1 0 0 0 0 0");
    }

    private void aboutTheNavigation() {
        pack("no navigation", new Book().swap(Book.PACK, " properties='nav'", ""), "6 6 2 -1 2 0 3 0 13");
        pack("59", new Book().swap(Book.PACK, "href='nav.xhtml'", "href='nav.xhtml#'"), "6 6 2 -1 1 0 3 0 13");
        pack("60", new Book().swap(Book.PACK, "href='nav.xhtml'", "href='na.xhtml'"), "6 6 2 -1 1 0 3 0 13");
        pack("65", new Book().swap(Book.PACK, "application/xhtml+xml' properties='nav'", "text/html' properties='nav'"),
            "6 6 2 3 2 0 3 0 13");
        pack("75", new Book().put(Book.NAV, "<x/>"), "6 6 2 3 2 0 3 0 13");
        pack("not parsed", new Book().put(Book.NAV, "<x>"), "6 6 2 3 2 0 3 0 13");
        pack("two", new Book().swap(Book.PACK, "id='page'", "id='page' properties='nav'"), "6 6 2 3 2 3 3 0 13");
        pack("the first of two has 59", new Book().swap(Book.PACK, "href='nav.xhtml'", "href='/'").swap(Book.PACK, "id='page'",
            "id='page' properties='nav'"), "6 6 2 -1 1 0 3 0 13");
    }

    private void entries() {
        Desk desk = new Desk();
        for (long packed : new long[] {0, 2147483646L, 2147483647L, 2147483648L, 4294967295L}) {
            Zip zip = new Zip();
            zip.stored("a", new byte[4]).packed = packed;
            desk.check(zip.bytes());
            due.is("packed of " + packed, desk.entry(0, 1), Math.min(packed, 2147483647L));
            due.is("its size", desk.entry(0, 0), 4);
        }
        desk.check(new Book().bytes());
        for (int what : new int[] {-1, 6, 7, Integer.MIN_VALUE, Integer.MAX_VALUE}) {
            due.is("entry(0, " + what + ")", desk.entry(0, what), NONE);
        }
        for (int i : new int[] {-1, 6, 40, Integer.MIN_VALUE, Integer.MAX_VALUE}) {
            for (int what = 0; what < 6; what++) {
                due.is("entry(" + i + ", " + what + ")", desk.entry(i, what), NONE);
            }
        }
        Zip zip = new Zip();
        for (int i = 0; i < 40; i++) {
            zip.deflated("a".repeat(i + 1), new byte[i * 30]);
        }
        desk.check(zip.bytes());
        due.is("the last of forty: size", desk.entry(39, 0), 39 * 30);
        due.is("the last of forty: read", desk.entry(39, 3), 1);
        due.is("the last of forty: name", desk.entry(39, 4), 40);
        due.is("the one behind", desk.entry(40, 0), NONE);
        zip = new Zip();
        zip.deflated("n".repeat(100), new byte[6000]);
        desk.check(zip.bytes());
        due.is("the most of a size", desk.entry(0, 0), 6000);
        due.is("the most of a name", desk.entry(0, 4), 100);
    }

    private void names() {
        Zip zip = new Zip();
        zip.stored("", new byte[0]);
        zip.add(new byte[] {-1, 0, 127, -128}, new byte[0], new byte[0], 0);
        zip.stored("n".repeat(99) + "z", new byte[0]);
        Desk desk = new Desk();
        desk.check(zip.bytes());
        due.is("the length of an empty name", desk.entry(0, 4), 0);
        due.is("byte 0 of an empty name", desk.name(0, 0), NONE);
        due.is("byte -1 of an empty name", desk.name(0, -1), NONE);
        int[] want = {255, 0, 127, 128, NONE};
        for (int k = 0; k < want.length; k++) {
            due.is("byte " + k + " of a name", desk.name(1, k), want[k]);
        }
        due.is("byte -1", desk.name(1, -1), NONE);
        due.is("the last byte of a name of 100", desk.name(2, 99), 'z');
        due.is("the one behind", desk.name(2, 100), NONE);
        due.is("the one far behind", desk.name(2, Integer.MAX_VALUE), NONE);
        due.is("the one far ahead", desk.name(2, Integer.MIN_VALUE), NONE);
        due.is("a name of none", desk.name(3, 0), NONE);
    }

    private void resources() {
        byte[] all = new byte[6000];
        for (int i = 0; i < all.length; i++) {
            all[i] = (byte) (i * 31 >> 3);
        }
        Zip zip = new Zip();
        zip.deflated("a", all);
        zip.stored("b", Arrays.copyOf(all, 256));
        zip.stored("c", new byte[0]);
        zip.stored("d", new byte[] {-1}).flags = 1;
        zip.stored("e", new byte[] {-2});
        Desk desk = new Desk();
        desk.check(zip.bytes());
        due.yes("deflated bytes", Arrays.equals(desk.resource(0), all));
        due.yes("stored bytes", Arrays.equals(desk.resource(1), Arrays.copyOf(all, 256)));
        due.is("the last byte of the greatest size", desk.resource(0, 5999), all[5999] & 255);
        due.is("the one behind", desk.resource(0, 6000), NONE);
        due.is("the one ahead", desk.resource(1, -1), NONE);
        due.is("no bytes", desk.resource(2, 0), NONE);
        due.is("one that isn't read", desk.resource(3, 0), NONE);
        due.is("one of one byte", desk.resource(4, 0), 254);
        due.is("behind it", desk.resource(4, 1), NONE);
        due.is("of none", desk.resource(5, 0), NONE);
    }

    private void orders() {
        Desk desk = checked(new Book());
        due.is("order(-1)", desk.order(-1), NONE);
        due.is("order(0)", desk.order(0), 3);
        due.is("order(1)", desk.order(1), 4);
        due.is("order(2)", desk.order(2), NONE);
        desk.check(new Book().swap(Book.PACK, "idref='page'", "idref='page' linear='no'").bytes());
        due.is("a shorter order", desk.order(0), 3);
        due.is("nothing is left of the longer one", desk.order(1), NONE);
        desk.check(new Book().swap(Book.PACK, "<spine>", "<x/><spine>").bytes());
        due.is("no order with 52", desk.order(0), NONE);
    }

    private void contents() {
        Desk desk = checked(new Book());
        int[][] want = {{0, 4, 3}, {0, NONE, 4}, {1, 3, 3}};
        for (int i = 0; i < 3; i++) {
            for (int what = 0; what < 3; what++) {
                due.is("contents(" + i + ", " + what + ")", desk.contents(i, what), want[i][what]);
            }
            for (int what : new int[] {-1, 3, 4, Integer.MIN_VALUE, Integer.MAX_VALUE}) {
                due.is("contents(" + i + ", " + what + ")", desk.contents(i, what), -2);
            }
        }
        for (int i : new int[] {-1, 3, 4, Integer.MIN_VALUE, Integer.MAX_VALUE}) {
            for (int what = -1; what <= 3; what++) {
                due.is("contents(" + i + ", " + what + "), looked at first", desk.contents(i, what), -3);
            }
        }
        desk.check(new Book().swap(Book.NAV, "epub:type='toc'", "").bytes());
        due.is("no contents", desk.contents(0, 0), -3);
        due.is("no contents, another what", desk.contents(0, 9), -3);
    }

    private void labels() {
        Desk desk = checked(new Book());
        due.is("label(0, 0)", desk.label(0, 0), 'O');
        due.is("label(0, 2)", desk.label(0, 2), 'e');
        due.is("label(0, 3)", desk.label(0, 3), NONE);
        due.is("label(0, -1)", desk.label(0, -1), NONE);
        due.is("label(2, 0)", desk.label(2, 0), 'T');
        due.is("label(3, 0)", desk.label(3, 0), NONE);
        due.is("label(-1, 0)", desk.label(-1, 0), NONE);
        desk.check(new Book().swap(Book.NAV, ">One<", "><").swap(Book.NAV, "Part", "\u00e9\ud83d\ude00").bytes());
        due.is("an empty label's length", desk.contents(0, 2), 0);
        due.is("an empty label", desk.label(0, 0), NONE);
        due.is("bytes of a label", desk.contents(1, 2), 6);
        int[] bytes = {0xC3, 0xA9, 0xF0, 0x9F, 0x98, 0x80, NONE};
        for (int k = 0; k < bytes.length; k++) {
            due.is("label(1, " + k + ")", desk.label(1, k), bytes[k]);
        }
    }

    private void wrongArguments() {
        Desk desk = checked(new Book());
        for (int i : ODD) {
            for (int k : ODD) {
                due.is("entry(" + i + ", " + k + ")", desk.entry(i, k), NONE);
                due.is("name(" + i + ", " + k + ")", desk.name(i, k), NONE);
                due.is("resource(" + i + ", " + k + ")", desk.resource(i, k), NONE);
                due.is("message(" + i + ", " + k + ")", desk.message(i, k), -3);
                due.is("contents(" + i + ", " + k + ")", desk.contents(i, k), -3);
                due.is("label(" + i + ", " + k + ")", desk.label(i, k), NONE);
            }
            due.is("order(" + i + ")", desk.order(i), NONE);
            due.is("about(" + i + ")", desk.about(i), NONE);
            due.is("name(0, " + i + ")", desk.name(0, i), NONE);
            due.is("resource(0, " + i + ")", desk.resource(0, i), i == 9 ? 'o' : NONE);
            due.is("label(0, " + i + ")", desk.label(0, i), NONE);
            due.is("contents(0, " + i + ")", desk.contents(0, i), -2);
        }
    }

    private void aheadOfCheck() {
        EpubDesk desk = new EpubDesk();
        for (int i = -1; i <= 9; i++) {
            due.is("about ahead of a check", desk.about(i), NONE);
            due.is("message ahead of a check", desk.message(i, 0), -3);
            due.is("message of another what ahead of a check", desk.message(i, 9), -3);
            due.is("contents ahead of a check", desk.contents(i, 0), -3);
            due.is("contents of another what ahead of a check", desk.contents(i, 9), -3);
            due.is("entry ahead of a check", desk.entry(i, 0), NONE);
            due.is("name ahead of a check", desk.name(i, 0), NONE);
            due.is("resource ahead of a check", desk.resource(i, 0), NONE);
            due.is("order ahead of a check", desk.order(i), NONE);
            due.is("label ahead of a check", desk.label(i, 0), NONE);
        }
    }
}
