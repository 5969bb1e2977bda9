import java.util.Arrays;
import java.util.function.Consumer;

/** Edges of an entry's name, headers, data and sum, and of the mimetype. */
public final class EntryTest {
    private static final String REST = "20@-1:0:0 22@-1:0:0";
    private static final byte[] NOTHING = new byte[0];

    private final Due due = new Due();

    public static void main(String[] args) {
        EntryTest test = new EntryTest();
        test.charsOfNames();
        test.partsOfNames();
        test.namesThatAreNoUtf8();
        test.namesAheadOfMore();
        test.sameNames();
        test.foundByName();
        test.flags();
        test.methods();
        test.localHeaders();
        test.numbersToldLater();
        test.whereHeadersLie();
        test.whereDataEnds();
        test.sizes();
        test.sums();
        test.theFirstAlone();
        test.firstEntries();
        test.mimetypes();
        test.due.close();
    }

    private void is(String what, Zip zip, String want) {
        due.is(what, new Desk().report(zip.bytes()), want);
    }

    private void name(String name, boolean right) {
        Zip zip = new Zip();
        zip.stored(name, NOTHING);
        is("the name [" + name + "]", zip, right ? REST : REST + " 10@0:0:0");
    }

    private void charsOfNames() {
        for (char c = 0; c < 160; c++) {
            boolean right = c >= 32 && c != 127 && "\"*:<>?\\|".indexOf(c) < 0;
            name("x" + c + "x", right);
            name("x" + c, right && c != '/' && c != '.');
            name(c + "x", right && c != '/');
        }
        for (String c : new String[] {"\u0080", "\u00ff", "\u0100", "\u07ff", "\u0800", "\ud7ff", "\ue000", "\ufffe", "\uffff",
            "\ud800\udc00", "\udbff\udfff"}) {
            name(c, true);
            name("a/" + c + "/b", true);
            name(c + "*", false);
            name(c + "/", false);
        }
    }

    private void partsOfNames() {
        for (String name : new String[] {"a", "a/b", "a/b/c/d", ".a", "..a", "a/.b", "a/..b", "a.b", "a.b/c", "a..b", " ", "a/ /b", "-"}) {
            name(name, true);
        }
        for (String name : new String[] {"", "/", "//", "/a", "a/", "a//b", "a///b", ".", "..", "...", "./a", "../a", "a/.", "a/..",
            "a/./b", "a/../b", "a.", "a./b", "a/b.", "a/b./c", "a../b", "a/.../b"}) {
            name(name, false);
        }
    }

    private void namesThatAreNoUtf8() {
        String[] wrong = {"80", "bf", "c0", "c080", "c1bf", "c2", "c241", "c27f", "c2c0", "dfc0", "e0a0", "e08080", "e09fbf", "e0a07f",
            "e0a0c0", "eda080", "edbfbf", "efbf", "f0908080c0", "f0808080",
            "f08fbfbf", "f0907fbf", "f090807f", "f09080", "f4908080", "f48fbf", "f5808080", "f7bfbfbf", "f888808080", "fc8480808080", "fe",
                "ff"};
        for (String hex : wrong) {
            Zip zip = new Zip();
            zip.add(hex("61" + hex), NOTHING, NOTHING, 0);
            is("a name of bytes " + hex, zip, REST + " 10@0:0:0");
        }
        for (String hex : new String[] {"c280", "dfbf", "e0a080", "ed9fbf", "ee8080", "efbfbf", "f0908080", "f48fbfbf"}) {
            Zip zip = new Zip();
            zip.add(hex("61" + hex), NOTHING, NOTHING, 0);
            is("a name of bytes " + hex, zip, REST);
        }
    }

    /** What stands behind a name is no part of it. */
    private void namesAheadOfMore() {
        Zip zip = new Zip();
        zip.add(hex("61c3"), NOTHING, NOTHING, 0).extra = hex("a9");
        is("a name cut off ahead of its extra field", zip, REST + " 10@0:0:0");
        zip = new Zip();
        zip.stored("a", NOTHING).extra = Zip.latin("/");
        zip.stored("b", NOTHING).comment = Zip.latin("/");
        is("names ahead of a /", zip, REST);
        zip = new Zip();
        zip.stored("a", NOTHING).extra = Zip.latin("x");
        zip.stored("A", NOTHING).extra = Zip.latin("y");
        zip.stored("a", NOTHING).comment = Zip.latin("z");
        is("names that are alike, and what is behind them not", zip, REST + " 12@1:0:0 11@2:0:0");
        Zip book = new Book().zip();
        book.entries.get(2).extra = Zip.latin("/x/");
        book.entries.get(4).extra = Zip.latin("/");
        is("a package and a page ahead of a /", book, "");
    }

    private static byte[] hex(String text) {
        byte[] row = new byte[text.length() / 2];
        for (int i = 0; i < row.length; i++) {
            row[i] = (byte) Integer.parseInt(text.substring(2 * i, 2 * i + 2), 16);
        }
        return row;
    }

    private void names(String what, String want, String... names) {
        Zip zip = new Zip();
        for (String name : names) {
            zip.stored(name, NOTHING);
        }
        is(what, zip, (REST + " " + want).trim());
    }

    private void sameNames() {
        names("the same name", "11@1:0:0", "a", "a");
        names("the same name thrice", "11@1:0:0 11@2:0:0", "a", "a", "a");
        names("the same but for capitals", "12@1:0:0", "a", "A");
        names("the same but for capitals, the other way", "12@1:0:0", "A", "a");
        names("11, and so not 12", "12@1:0:0 11@2:0:0", "a", "A", "a");
        names("11, and so not 12, the other way", "12@1:0:0 11@2:0:0", "a", "A", "A");
        names("all letters", "12@1:0:0", "abcdefghijklmnopqrstuvwxyz", "ABCDEFGHIJKLMNOPQRSTUVWXYZ");
        names("other signs aren't capitals", "", "x@", "x`", "y[", "y{");
        names("other letters aren't capitals", "", "\u00e9\u0430", "\u00c9\u0410");
        names("a longer one", "", "a", "aa", "A/a");
        names("in a folder", "12@1:0:0", "a/b", "A/b");
        names("wrong ones too", "10@0:0:0 10@1:0:0 11@1:0:0 10@2:0:0 12@2:0:0", "a/", "a/", "A/");
        names("empty ones", "10@0:0:0 10@1:0:0 11@1:0:0", "", "");
    }

    /** The first that has just these bytes. */
    private void foundByName() {
        Book book = new Book();
        Zip zip = book.zip();
        zip.stored(Book.CONTAINER, Zip.latin("<x"));
        zip.stored(Book.PACK, Zip.latin("<x"));
        zip.stored("mimetype", NOTHING);
        is("second ones", zip, "11@6:0:0 11@7:0:0 11@8:0:0");
        new Book().drop(Book.CONTAINER).put("META-INF/Container.xml", "<x").due(due, "a container in capitals", "22 -");
        new Book().drop(Book.CONTAINER).put("META-INF/container.xml.", "<x")
            .due(due, "a container with more behind", "22 -", "10 META-INF/container.xml.");
        new Book().put("META-INF/encryption.XML", "<x").due(due, "an encryption in capitals");
        Zip ahead = new Zip();
        ahead.stored("mimetype", Zip.latin("application/epub+zip"));
        ahead.stored(Book.CONTAINER, Zip.latin("<x")).flags = 1;
        ahead.stored(Book.CONTAINER, Zip.latin("<x"));
        is("the first one, even if it isn't read", ahead, "13@1:0:0 11@2:0:0");
    }

    /** An archive of a mimetype and a deflated entry, which is changed; 0 for no fault. */
    private void fault(String what, int code, Consumer<Zip.Entry> change) {
        Zip zip = new Zip();
        zip.stored("mimetype", Zip.latin("application/epub+zip"));
        zip.deflated("a", Zip.latin("some data, some data"));
        change.accept(zip.entries.get(1));
        told(what, code, zip.bytes());
    }

    /** The same with a stored entry. */
    private void storedFault(String what, int code, Consumer<Zip.Entry> change) {
        Zip zip = new Zip();
        zip.stored("mimetype", Zip.latin("application/epub+zip"));
        zip.stored("a", Zip.latin("some data, some data"));
        change.accept(zip.entries.get(1));
        told(what, code, zip.bytes());
    }

    private void told(String what, int code, byte[] row) {
        Desk desk = new Desk();
        due.is(what, desk.report(row), "22@-1:0:0" + (code == 0 ? "" : " " + code + "@1:0:0"));
        due.is(what + ": read", desk.entry(1, 3), code == 0 ? 1 : 0);
        due.is(what + ": first byte", desk.resource(1, 0), code == 0 ? 's' : EpubDesk.NONE);
        due.is(what + ": last byte", desk.resource(1, 19), code == 0 ? 'a' : EpubDesk.NONE);
        due.is(what + ": behind the last", desk.resource(1, 20), EpubDesk.NONE);
        due.is(what + ": how many are read", desk.about(1), code == 0 ? 2 : 1);
    }

    private void flags() {
        for (int bit = 0; bit < 16; bit++) {
            int flags = 1 << bit;
            fault("bit " + bit + " of the flags", bit == 0 ? 13 : 0, e -> e.flags = flags);
        }
        fault("bit 0 of the local flags", 0, e -> e.localFlags = 1);
        fault("bit 3 of the local flags alone", 15, e -> { e.localFlags = 8; e.localSum = 0; });
    }

    private void methods() {
        for (int method : new int[] {1, 7, 9, 12, 255, 256, 264, 2048, 65528, 65535}) {
            fault("method " + method, 14, e -> { e.method = method; e.localMethod = method; });
            fault("method " + method + " of the directory", 14, e -> e.method = method);
            fault("method " + method + " of the local header", 15, e -> e.localMethod = method);
        }
        Zip zip = new Zip();
        zip.stored("a", NOTHING).method = 65535;
        Desk desk = new Desk();
        desk.check(zip.bytes());
        due.is("the method is told", desk.entry(0, 2), 65535);
    }

    private void localHeaders() {
        for (int i = 0; i < 4; i++) {
            int turned = 1 << 8 * i;
            fault("byte " + i + " of the sign", 15, e -> e.sign ^= turned);
            fault("byte " + i + " of the sum", 15, e -> e.localSum ^= turned);
            fault("byte " + i + " of packed", 15, e -> e.localPacked ^= turned);
            fault("byte " + i + " of the size", 15, e -> e.localSize ^= turned);
        }
        fault("another method", 15, e -> e.localMethod = 0);
        storedFault("another method of a stored one", 15, e -> e.localMethod = 8);
        fault("another name", 15, e -> e.localName = Zip.latin("b"));
        fault("a name in capitals", 15, e -> e.localName = Zip.latin("A"));
        fault("a longer name", 15, e -> e.localName = Zip.latin("aa"));
        fault("no name", 15, e -> e.localName = NOTHING);
        fault("a name of 257 bytes", 15, e -> e.localName = Zip.latin("a".repeat(257)));
        fault("an extra field", 0, e -> e.localExtra = new byte[1]);
        fault("a long extra field", 0, e -> e.localExtra = new byte[300]);
    }

    /** With bit 3 of the flags the local numbers may be any, but nothing else. */
    private void numbersToldLater() {
        fault("numbers told later", 0, e -> { e.flags = 8; e.localSum = 0; e.localPacked = 0; e.localSize = 0; });
        fault("other numbers", 0, e -> { e.flags = 8; e.localSum = 77; e.localPacked = 4294967295L; e.localSize = 6001; });
        fault("another method", 15, e -> { e.flags = 8; e.localMethod = 0; });
        fault("another name", 15, e -> { e.flags = 8; e.localName = Zip.latin("b"); });
        fault("another sign", 15, e -> { e.flags = 8; e.sign = 0; });
        fault("the directory's packed counts", 16, e -> { e.flags = 8; e.packed++; });
        fault("the directory's size counts", 17, e -> { e.flags = 8; e.size++; });
        fault("the directory's sum counts", 18, e -> { e.flags = 8; e.sum ^= 1; });
    }

    private void whereHeadersLie() {
        for (long place : new long[] {1, 2147483647L, 2147483648L, 4294967295L, 4294967295L - 29, 4294967295L - 30}) {
            fault("a place of " + place, 15, e -> e.place = place);
        }
        for (int bytes = 0; bytes <= 31; bytes++) {
            Zip zip = new Zip();
            zip.stored("P", NOTHING);
            byte[] row = zip.bytes();
            // The directory begins with a P, too: a header cut short would go on into it.
            Zip cut = new Zip();
            cut.lead = Arrays.copyOf(row, bytes);
            cut.stored("P", NOTHING).place = 0;
            row = without(cut.bytes(), bytes, 31);
            due.is("a header of " + bytes + " bytes ahead of the directory", new Desk().report(row), bytes == 31 ? REST : REST
                + " 15@0:0:0");
        }
        Zip zip = new Zip();
        zip.stored("a", NOTHING).place = 31 + 47 + 22;
        Zip local = new Zip();
        local.stored("a", NOTHING);
        zip.comment = Arrays.copyOf(local.bytes(), 31);
        is("a header behind the directory", zip, REST + " 15@0:0:0");
        zip.entries.get(0).place = 0;
        is("the one ahead of it", zip, REST);
    }

    /** An archive without some bytes ahead of its directory. */
    private static byte[] without(byte[] row, int from, int length) {
        byte[] out = new byte[row.length - length];
        System.arraycopy(row, 0, out, 0, from);
        System.arraycopy(row, from + length, out, from, out.length - from);
        int at = out.length - 22 + 16;
        int place = (out[at] & 255 | (out[at + 1] & 255) << 8) - length;
        out[at] = (byte) place;
        out[at + 1] = (byte) (place >> 8);
        return out;
    }

    private void whereDataEnds() {
        fault("data that ends at the directory", 0, e -> { });
        fault("a byte more", 16, e -> { e.packed++; e.localPacked++; });
        fault("the most", 16, e -> { e.packed = 4294967295L; e.localPacked = 4294967295L; });
        fault("as much as would wrap around", 16, e -> { e.packed = 4294967296L - 50; e.localPacked = 4294967296L - 50; });
        fault("2147483648", 16, e -> { e.packed = 2147483648L; e.localPacked = 2147483648L; });
        fault("a byte less", 17, e -> { e.packed--; e.localPacked--; });
        for (int length : new int[] {1, 255, 65535}) {
            Zip zip = new Zip();
            zip.stored("mimetype", Zip.latin("application/epub+zip"));
            zip.deflated("a", Zip.latin("some data, some data"));
            byte[] row = zip.bytes();
            int at = 30 + 8 + 20 + 28;
            row[at] = (byte) length;
            row[at + 1] = (byte) (length >> 8);
            told("an extra field of " + length + " that pushes the data beyond", 16, row);
        }
        Zip zip = new Zip();
        zip.stored("mimetype", Zip.latin("application/epub+zip"));
        zip.stored("a", Zip.latin("some data, some data"));
        zip.stored("b", NOTHING);
        due.is("data ahead of another entry", new Desk().report(zip.bytes()), "22@-1:0:0");
        zip.entries.get(1).packed++;
        zip.entries.get(1).localPacked++;
        due.is("data into another entry", new Desk().report(zip.bytes()), "22@-1:0:0 17@1:0:0");
        zip.entries.get(1).size++;
        zip.entries.get(1).localSize++;
        due.is("data into another entry, with its size", new Desk().report(zip.bytes()), "22@-1:0:0 18@1:0:0");
    }

    private void sizes() {
        storedFault("stored", 0, e -> { });
        storedFault("stored, a size less", 17, e -> { e.size--; e.localSize--; });
        storedFault("stored, a size more", 17, e -> { e.size++; e.localSize++; });
        storedFault("stored, packed less", 17, e -> { e.packed--; e.localPacked--; });
        storedFault("stored, both less", 18, e -> { e.packed--; e.localPacked--; e.size--; e.localSize--; });
        fault("deflated, a size less", 17, e -> { e.size--; e.localSize--; });
        fault("deflated, a size more", 17, e -> { e.size++; e.localSize++; });
        fault("deflated, a size of 0", 17, e -> { e.size = 0; e.localSize = 0; });
        fault("deflated, the most of a size", 17, e -> { e.size = 5980; e.localSize = 5980; });
        fault("deflated, nothing packed", 17, e -> { e.packed = 0; e.localPacked = 0; });
        Zip zip = new Zip();
        zip.stored("a", NOTHING);
        zip.deflated("b", NOTHING);
        Desk desk = new Desk();
        due.is("nothing, stored and deflated", desk.report(zip.bytes()), REST);
        due.is("nothing is read", desk.about(1), 2);
        due.is("nothing has no bytes", desk.resource(0, 0), EpubDesk.NONE);
        due.is("nothing has no bytes, deflated", desk.resource(1, 0), EpubDesk.NONE);
        due.is("nothing's size", desk.entry(1, 0), 0);
    }

    private void sums() {
        for (int bit = 0; bit < 32; bit++) {
            long turned = 1L << bit;
            fault("bit " + bit + " of the sum", 18, e -> { e.sum ^= turned; e.localSum ^= turned; });
        }
        Zip zip = new Zip();
        zip.stored("a", NOTHING).sum = 0;
        zip.stored("b", Zip.latin("123456789")).sum = 0xCBF43926L;
        zip.stored("c", new byte[] {0}).sum = 0xD202EF8DL;
        zip.stored("d", new byte[] {-1}).sum = 0xFF000000L;
        is("sums that are known", zip, REST);
        zip = new Zip();
        Zip.Entry e = zip.stored("a", NOTHING);
        e.sum = 1;
        e.localSum = 1;
        is("the sum of nothing", zip, REST + " 18@0:0:0");
    }

    /** Of what is wrong with an entry's bytes the first alone is told. */
    private void theFirstAlone() {
        Consumer<Zip.Entry> sum = e -> { e.sum ^= 1; e.localSum ^= 1; };
        Consumer<Zip.Entry> size = sum.andThen(e -> { e.size++; e.localSize++; });
        Consumer<Zip.Entry> data = size.andThen(e -> { e.packed += 999; e.localPacked += 999; });
        Consumer<Zip.Entry> header = data.andThen(e -> e.localSum++);
        Consumer<Zip.Entry> method = header.andThen(e -> e.method = 1);
        Consumer<Zip.Entry> flags = method.andThen(e -> e.flags = 1);
        fault("18", 18, sum);
        fault("17 and 18", 17, size);
        storedFault("17 and 18, stored", 17, size);
        fault("16 to 18", 16, data);
        fault("15 to 18", 15, header);
        fault("14 to 18", 14, method);
        fault("13 to 18", 13, flags);
        Zip zip = new Zip();
        zip.stored("a/", NOTHING).flags = 1;
        is("the name is told beside", zip, REST + " 10@0:0:0 13@0:0:0");
    }

    private void mime(String what, String want, Consumer<Zip> change) {
        Zip zip = new Zip();
        zip.stored("mimetype", Zip.latin("application/epub+zip"));
        zip.stored("a", Zip.latin("data"));
        change.accept(zip);
        is("mimetype: " + what, zip, ("22@-1:0:0 " + want).trim());
    }

    private static Zip.Entry first(Zip zip) {
        return zip.entries.get(0);
    }

    private void firstEntries() {
        mime("first", "", z -> { });
        mime("the least place, though behind in the directory", "", z -> {
            z.entries.add(0, z.entries.remove(1));
            z.lead = Arrays.copyOf(mimetypeBytes(), 58);
            z.entries.get(1).place = 0;
        });
        mime("behind in the directory and in place", "21@1:0:0", z -> z.entries.add(0, z.entries.remove(1)));
        mime("one of the same place behind it", "15@1:0:0", z -> z.entries.get(1).place = 0);
        mime("one of the same place ahead of it", "15@0:0:0 21@1:0:0", z -> { z.entries.add(0,
            z.entries.remove(1)); z.lead = Arrays.copyOf(mimetypeBytes(), 58); z.entries.get(0).place = 0; z.entries.get(1).place = 0; });
        mime("another one's place is without sign", "15@1:0:0", z -> z.entries.get(1).place = 4294967295L);
        mime("its own place is without sign", "15@0:0:0 21@0:0:0", z -> first(z).place = 4294967295L);
        mime("bytes ahead of it are no entry", "", z -> z.lead = new byte[50]);
        mime("a wrong entry ahead of it", "21@0:0:0 15@1:0:0", z -> { z.lead = new byte[50]; z.entries.get(1).place = 0; });
        Zip alone = new Zip();
        alone.stored("mimetype", Zip.latin("application/epub+zip"));
        is("alone", alone, "22@-1:0:0");
        first(alone).localExtra = new byte[1];
        is("alone, with an extra field", alone, "22@-1:0:0 21@0:0:0");
        is("no entries", new Zip(), REST);
        for (String name : new String[] {"MIMETYPE", "a/mimetype", "mimetype2", "mimetyp"}) {
            Zip other = new Zip();
            other.stored(name, Zip.latin("application/epub+zip"));
            is("none of the name, but " + name, other, REST);
        }
    }

    private static byte[] mimetypeBytes() {
        Zip zip = new Zip();
        zip.stored("mimetype", Zip.latin("application/epub+zip"));
        return zip.bytes();
    }

    private static Consumer<Zip> text(String text) {
        return z -> {
            Zip other = new Zip();
            z.entries.set(0, other.stored("mimetype", Zip.latin(text)));
        };
    }

    private static Consumer<Zip> extra(Consumer<Zip.Entry> more) {
        return z -> {
            first(z).localExtra = new byte[1];
            more.accept(first(z));
        };
    }

    private void mimetypes() {
        for (String bytes : new String[] {"", "application/epub+zi", "application/epub+zip ", "application/epub+zip\n",
            " application/epub+zip", "Application/epub+zip", "application/epub+ziq"}) {
            mime("of [" + bytes + "]", "21@0:0:0", text(bytes));
        }
        mime("deflated", "21@0:0:0", z -> z.entries.set(0, new Zip().deflated("mimetype", Zip.latin("application/epub+zip"))));
        mime("of method 1", "14@0:0:0 21@0:0:0", z -> { first(z).method = 1; first(z).localMethod = 1; });
        mime("with an extra field", "21@0:0:0", extra(e -> { }));
        mime("with an extra field of 256", "21@0:0:0", z -> first(z).localExtra = new byte[256]);
        mime("with an extra field in the directory", "", z -> first(z).extra = new byte[3]);
        mime("13", "13@0:0:0", z -> first(z).flags = 1);
        mime("13, with an extra field", "13@0:0:0 21@0:0:0", extra(e -> e.flags = 1));
        mime("13, other bytes", "13@0:0:0", text("x").andThen(z -> first(z).flags = 1));
        mime("15", "15@0:0:0", z -> first(z).localSum++);
        mime("15, with an extra field", "15@0:0:0", extra(e -> e.localSum++));
        mime("15, other bytes", "15@0:0:0", text("x").andThen(z -> first(z).localSum++));
        mime("13 and 15, with an extra field", "13@0:0:0", extra(e -> { e.flags = 1; e.localSum++; }));
        mime("13 and bit 3, with an extra field", "13@0:0:0 21@0:0:0", extra(e -> { e.flags = 9; e.localSum++; }));
        mime("16, with an extra field", "16@0:0:0", extra(e -> { e.packed = 9999; e.localPacked = 9999; }));
        mime("13 and 16, with an extra field", "13@0:0:0", extra(e -> { e.flags = 1; e.packed = 9999; e.localPacked = 9999; }));
        mime("17", "17@0:0:0", z -> { first(z).size--; first(z).localSize--; });
        mime("17, with an extra field", "17@0:0:0 21@0:0:0", extra(e -> { e.size--; e.localSize--; }));
        mime("18", "18@0:0:0", z -> { first(z).sum++; first(z).localSum++; });
        mime("18, with an extra field", "18@0:0:0 21@0:0:0", extra(e -> { e.sum++; e.localSum++; }));
        mime("18, other bytes", "18@0:0:0", text("x").andThen(z -> { first(z).sum++; first(z).localSum++; }));
        mime("the second of two", "11@1:0:0", z -> { z.entries.remove(1); z.deflated("mimetype", new byte[0]); });
    }
}
