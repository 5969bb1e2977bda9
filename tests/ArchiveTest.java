/** The archive: its end, its directory, the limits, the entries' names and bytes, the mimetype. */
public final class ArchiveTest {
    private static final String REST = "20@-1:0:0 22@-1:0:0";

    public static void main(String[] args) {
        Due due = new Due();
        ends(due);
        directories(due);
        limits(due);
        names(due);
        headers(due);
        bytes(due);
        mimetypes(due);
        due.close();
    }

    private static void is(Due due, String what, Zip zip, String want) {
        due.is(what, new Desk().report(zip.bytes()), want);
    }

    private static Zip one() {
        Zip zip = new Zip();
        zip.stored("a", Zip.latin("data"));
        return zip;
    }

    private static void ends(Due due) {
        due.is("no bytes", new Desk().report(new byte[0]), "1@-1:0:0");
        due.is("21 bytes", new Desk().report(new byte[21]), "1@-1:0:0");
        is(due, "one entry", one(), REST);
        Zip zip = one();
        zip.comment = Zip.latin("hello");
        is(due, "a comment", zip, REST);
        zip = one();
        zip.behind = Zip.latin("x");
        is(due, "a byte behind the end", zip, "1@-1:0:0");
        zip = one();
        zip.comment = Zip.latin("PK\5\6\0\0\0\0\0\0\0\0\0\0\0\0\0\0\0\0\0\0");
        is(due, "the greatest place counts", zip, REST);
        zip = one();
        zip.comment = Zip.latin("PK\5\6\0\0\0\0\0\0\0\0\0\0\0\0\0\0\0\0\1\0");
        is(due, "an end in a comment that doesn't reach", zip, REST);
    }

    private static void directories(Due due) {
        String wrong = "2@-1:0:0";
        Zip zip = one();
        zip.firstDisk = 1;
        is(due, "first disk", zip, wrong);
        zip = one();
        zip.secondDisk = 1;
        is(due, "second disk", zip, wrong);
        zip = one();
        zip.secondCountChange = 1;
        is(due, "two counts", zip, wrong);
        zip = one();
        zip.countChange = 1;
        is(due, "a header too few", zip, wrong);
        zip = one();
        zip.countChange = -1;
        is(due, "a header too many", zip, wrong);
        zip = one();
        zip.sizeChange = -1;
        is(due, "a directory cut short", zip, wrong);
        zip = one();
        zip.sizeChange = 1;
        is(due, "a directory into the end", zip, wrong);
        zip = one();
        zip.placeChange = 1;
        is(due, "a directory beside", zip, wrong);
        zip = one();
        zip.sizeChange = -2;
        zip.placeChange = 2;
        is(due, "a wrong sign", zip, wrong);
        zip = one();
        zip.placeChange = -1;
        zip.sizeChange = 1;
        is(due, "a sign too late", zip, wrong);
        zip = one();
        zip.entries.get(0).disk = 1;
        is(due, "an entry's disk", zip, wrong);
        zip = one();
        zip.entries.get(0).extra = new byte[3];
        zip.entries.get(0).comment = new byte[4];
        is(due, "extra field and comment", zip, REST);
        zip = one();
        zip.entries.get(0).disk = 1;
        zip.entries.get(0).size = 6001;
        is(due, "the directory ahead of the limits", zip, wrong);
    }

    private static void limits(Due due) {
        String wrong = "3@-1:0:0";
        Zip zip = new Zip();
        for (int i = 0; i < 40; i++) {
            zip.stored("a" + i, new byte[0]);
        }
        is(due, "40 entries", zip, REST);
        zip.stored("a40", new byte[0]);
        is(due, "41 entries", zip, wrong);
        zip = new Zip();
        zip.stored("n".repeat(100), new byte[0]);
        is(due, "a name of 100", zip, REST);
        zip = new Zip();
        zip.stored("n".repeat(101), new byte[0]);
        is(due, "a name of 101", zip, wrong);
        zip = new Zip();
        zip.deflated("a", new byte[6000]);
        is(due, "a size of 6000", zip, REST);
        zip = new Zip();
        zip.deflated("a", new byte[6001]);
        is(due, "a size of 6001", zip, wrong);
        zip = new Zip();
        for (int i = 0; i < 4; i++) {
            zip.deflated("a" + i, new byte[6000]);
        }
        is(due, "24000 in all", zip, REST);
        zip.stored("b", new byte[1]);
        is(due, "24001 in all", zip, wrong);
        zip = one();
        zip.entries.get(0).size = 4294967295L;
        is(due, "the greatest size", zip, wrong);
    }

    private static void names(Due due) {
        String[] right = {"a", "a/b", "a.b", "...a", "a b", ".a/b", "\u00e9\u20ac\ud83d\ude00", "a%b", "~", "a/b.c/d"};
        for (String name : right) {
            Zip zip = new Zip();
            zip.stored(name, new byte[0]);
            is(due, "the name " + name, zip, REST);
        }
        String[] wrong = {"", "/", "/a", "a/", "a//b", ".", "..", "a/./b", "a/../b", "./a", "a/..", "a.", "a./b", "a/b.",
            "a\u001fb", "a\u007f", "a\"", "a*", "a:b", "<", ">", "?", "a\\b", "a|b", "\0"};
        for (String name : wrong) {
            Zip zip = new Zip();
            zip.stored(name, new byte[0]);
            is(due, "the name [" + name + "]", zip, REST + " 10@0:0:0");
        }
        String[] noUtf8 = {"\u00ff", "\u00c3", "\u00c0\u0080", "\u00e0\u0080\u0080", "\u00ed\u00a0\u0080", "\u00f4\u0090\u0080\u0080",
            "\u00f0\u0080\u0080\u0080", "\u0080", "\u00e0\u0081\u0081", "\u00f0\u0080\u0081\u0081", "\u00c1\u0081", "\u00e2\u0082a", "\u00f8\u0088\u0080\u0080\u0080"};
        for (String name : noUtf8) {
            Zip zip = new Zip();
            zip.add(Zip.latin(name), new byte[0], new byte[0], 0);
            is(due, "a name that is no UTF-8", zip, REST + " 10@0:0:0");
        }
        Zip ahead = new Zip();
        ahead.add(Zip.latin("a\u00c3"), new byte[0], new byte[0], 0).extra = Zip.latin("\u00a9");
        is(due, "a name ends ahead of its extra field", ahead, REST + " 10@0:0:0");
        Zip zip = new Zip();
        for (String name : new String[] {"a", "b", "a", "A", "a", "B", "\u00e9", "\u00c9"}) {
            zip.stored(name, new byte[0]);
        }
        is(due, "the same names", zip, REST + " 11@2:0:0 12@3:0:0 11@4:0:0 12@5:0:0");
        zip = new Zip();
        zip.stored("x[", new byte[0]);
        zip.stored("x{", new byte[0]);
        is(due, "only letters have capitals", zip, REST);
        zip = new Zip();
        zip.stored("aZ", new byte[0]);
        zip.stored("Az", new byte[0]);
        is(due, "the first and the last letter", zip, REST + " 12@1:0:0");
        zip = new Zip();
        zip.stored("a/", new byte[0]);
        zip.stored("A/", new byte[0]);
        zip.stored("a/", new byte[0]);
        is(due, "wrong names told of one another", zip, REST + " 10@0:0:0 10@1:0:0 12@1:0:0 10@2:0:0 11@2:0:0");
    }

    private static void fault(Due due, String what, int code, java.util.function.Consumer<Zip.Entry> change) {
        Zip zip = new Zip();
        zip.stored("mimetype", Zip.latin("application/epub+zip"));
        zip.deflated("a", Zip.latin("some data, some data"));
        change.accept(zip.entries.get(1));
        is(due, what, zip, "22@-1:0:0" + (code == 0 ? "" : " " + code + "@1:0:0"));
        Desk desk = new Desk();
        desk.check(zip.bytes());
        due.is(what + ": read", desk.desk.entry(1, 3), code == 0 ? 1 : 0);
        due.is(what + ": bytes", desk.desk.resource(1, 0), code == 0 ? 's' : EpubDesk.NONE);
        due.is(what + ": how many are read", desk.desk.about(1), code == 0 ? 2 : 1);
    }

    private static void headers(Due due) {
        fault(due, "right", 0, e -> { });
        fault(due, "locked", 13, e -> e.flags = 1);
        fault(due, "locked, whatever else", 13, e -> { e.flags = 1; e.method = 5; e.sign = 0; });
        fault(due, "method 9", 14, e -> { e.method = 9; e.localMethod = 9; });
        fault(due, "method 9 of one", 14, e -> e.method = 9);
        fault(due, "another method", 15, e -> e.localMethod = 0);
        fault(due, "sign", 15, e -> e.sign = 0x04034b51);
        fault(due, "sum", 15, e -> e.localSum++);
        fault(due, "packed", 15, e -> e.localPacked++);
        fault(due, "size", 15, e -> e.localSize++);
        fault(due, "numbers told later", 0, e -> { e.flags = 8; e.localSum = 0; e.localPacked = 0; e.localSize = 0; });
        fault(due, "other flags", 0, e -> e.flags = 0xFFF6);
        fault(due, "another name", 15, e -> e.localName = Zip.latin("b"));
        fault(due, "a longer name", 15, e -> e.localName = Zip.latin("ab"));
        fault(due, "a place beyond", 15, e -> e.place = 1000000);
        fault(due, "the greatest place", 15, e -> e.place = 4294967295L);
        fault(due, "a place beside", 15, e -> e.place = 1);
        fault(due, "an extra field", 0, e -> e.localExtra = new byte[7]);
        fault(due, "too much packed", 16, e -> { e.packed += 1000; e.localPacked += 1000; });
        fault(due, "the most packed", 16, e -> { e.packed = 4294967295L; e.localPacked = 4294967295L; });
        fault(due, "one byte too much packed", 16, e -> { e.packed++; e.localPacked++; });
        fault(due, "one byte too few packed", 17, e -> { e.packed--; e.localPacked--; });
        fault(due, "a size too small", 17, e -> { e.size--; e.localSize--; });
        fault(due, "a size too great", 17, e -> { e.size++; e.localSize++; });
        fault(due, "another sum", 18, e -> { e.sum ^= 1; e.localSum ^= 1; });
        fault(due, "another high sum", 18, e -> { e.sum ^= 0x80000000L; e.localSum ^= 0x80000000L; });
        Zip zip = one();
        zip.entries.get(0).size--;
        zip.entries.get(0).localSize--;
        is(due, "stored with another size", zip, REST + " 17@0:0:0");
        zip = one();
        zip.entries.get(0).place = zip.bytes().length - 22 - 47 - 33;
        is(due, "a header that ends behind the directory's beginning", zip, REST + " 15@0:0:0");
        zip = new Zip();
        zip.stored("P", new byte[0]).localName = new byte[0];
        byte[] row = zip.bytes();
        row[26] = 1;
        due.is("a name that is the directory's beginning", new Desk().report(row), REST + " 15@0:0:0");
    }

    private static void bytes(Due due) {
        Zip zip = one();
        zip.entries.get(0).packed = 4294967295L;
        Desk desk = new Desk();
        desk.check(zip.bytes());
        due.is("packed that is more", desk.desk.entry(0, 1), 2147483647);
        due.is("size", desk.desk.entry(0, 0), 4);
        zip = one();
        zip.entries.get(0).packed = 2147483648L;
        desk.check(zip.bytes());
        due.is("packed just above", desk.desk.entry(0, 1), 2147483647);
        zip = new Zip();
        byte[] all = new byte[256];
        for (int i = 0; i < 256; i++) {
            all[i] = (byte) i;
        }
        zip.stored("a", all);
        zip.deflated("b", all);
        zip.stored("c", new byte[0]);
        desk.check(zip.bytes());
        due.yes("all bytes stored", java.util.Arrays.equals(desk.resource(0), all));
        due.yes("all bytes deflated", java.util.Arrays.equals(desk.resource(1), all));
        due.is("no bytes", desk.desk.resource(2, 0), EpubDesk.NONE);
        due.is("an empty one is read", desk.desk.entry(2, 3), 1);
    }

    private static void mime(Due due, String what, boolean right, java.util.function.Consumer<Zip> change) {
        Zip zip = new Zip();
        zip.stored("mimetype", Zip.latin("application/epub+zip"));
        zip.stored("a", Zip.latin("data"));
        change.accept(zip);
        String report = new Desk().report(zip.bytes());
        due.is("mimetype: " + what, report.contains("21@") ? 0 : 1, right ? 1 : 0);
    }

    private static void mimetypes(Due due) {
        mime(due, "right", true, z -> { });
        mime(due, "behind another", false, z -> java.util.Collections.reverse(z.entries));
        mime(due, "of the same place", true, z -> z.entries.get(1).place = 0);
        mime(due, "deflated", false, z -> z.entries.set(0, new Zip().deflated("mimetype", Zip.latin("application/epub+zip"))));
        mime(due, "an extra field", false, z -> z.entries.get(0).localExtra = new byte[1]);
        mime(due, "an extra field in the directory", true, z -> z.entries.get(0).extra = new byte[1]);
        mime(due, "an extra field of a locked one", false, z -> { z.entries.get(0).localExtra = new byte[1]; z.entries.get(0).flags = 1; });
        mime(due, "a locked one", true, z -> z.entries.get(0).flags = 1);
        mime(due, "an extra field of one with a wrong sum", false, z -> { Zip.Entry e = z.entries.get(0); e.localExtra = new byte[1]; e.sum = 1; e.localSum = 1; });
        mime(due, "a wrong sum", true, z -> { Zip.Entry e = z.entries.get(0); e.sum = 1; e.localSum = 1; });
        mime(due, "an extra field behind a wrong header", true, z -> { Zip.Entry e = z.entries.get(0); e.localExtra = new byte[1]; e.localSum = 1; });
        mime(due, "an extra field, data beyond", true, z -> { Zip.Entry e = z.entries.get(0); e.localExtra = new byte[1]; e.packed = 9999; e.localPacked = 9999; });
        mime(due, "an extra field of a locked one behind a wrong header", true, z -> { Zip.Entry e = z.entries.get(0); e.localExtra = new byte[1]; e.flags = 1; e.localSum = 1; });
        mime(due, "an extra field of a locked one, numbers told later", false, z -> { Zip.Entry e = z.entries.get(0); e.localExtra = new byte[1]; e.flags = 9; e.localSum = 1; });
        mime(due, "other bytes", false, z -> z.entries.set(0, new Zip().stored("mimetype", Zip.latin("application/epub+zip\n"))));
        mime(due, "other bytes, capitals", false, z -> z.entries.set(0, new Zip().stored("mimetype", Zip.latin("application/EPUB+zip"))));
        Zip alone = new Zip();
        alone.stored("mimetype", Zip.latin("application/epub+zip")).localExtra = new byte[1];
        is(due, "an extra field, and nothing behind", alone, "22@-1:0:0 21@0:0:0");
        Zip zip = new Zip();
        zip.stored("Mimetype", Zip.latin("application/epub+zip"));
        is(due, "another name", zip, REST);
        zip = new Zip();
        zip.stored("mimetype", Zip.latin("application/epub+zip"));
        zip.stored("mimetype", Zip.latin("x"));
        is(due, "the first one counts", zip, "22@-1:0:0 11@1:0:0");
    }
}
