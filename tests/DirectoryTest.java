import java.util.function.Consumer;

/** Edges of the archive's end, its directory and the limits; each fatal message, and what is just right. */
public final class DirectoryTest {
    private static final String NO_ARCHIVE = "1@-1:0:0";
    private static final String DIRECTORY = "2@-1:0:0";
    private static final String LIMIT = "3@-1:0:0";
    private static final String RIGHT = "20@-1:0:0 22@-1:0:0";
    private static final int END = 22;
    private static final int HEADER = 47;

    private final Due due = new Due();

    public static void main(String[] args) {
        DirectoryTest test = new DirectoryTest();
        test.smallest();
        test.greatestPlace();
        test.numbersOfTheEnd();
        test.wrapAround();
        test.whereTheDirectoryLies();
        test.headers();
        test.headersThatEndElsewhere();
        test.limits();
        test.limitsBehindTheDirectory();
        test.due.close();
    }

    private static Zip one() {
        Zip zip = new Zip();
        zip.stored("a", Zip.latin("data"));
        return zip;
    }

    private void is(String what, byte[] row, String want) {
        due.is(what, new Desk().report(row), want);
    }

    /** An archive with one entry, changed: its end is 22 bytes from its own end, its header 47 ahead of that. */
    private void changed(String what, Consumer<byte[]> change, String want) {
        byte[] row = one().bytes();
        change.accept(row);
        is(what, row, want);
    }

    private static int end(byte[] row) {
        return row.length - END;
    }

    private static int header(byte[] row) {
        return row.length - END - HEADER;
    }

    private static void four(byte[] row, int at, long number) {
        for (int i = 0; i < 4; i++) {
            row[at + i] = (byte) (number >> 8 * i);
        }
    }

    private void smallest() {
        is("no bytes", new byte[0], NO_ARCHIVE);
        byte[] end = new Zip().bytes();
        due.is("an end alone", end.length, END);
        is("22 bytes", end, RIGHT);
        is("21 bytes", java.util.Arrays.copyOf(end, 21), NO_ARCHIVE);
        is("23 bytes", java.util.Arrays.copyOf(end, 23), NO_ARCHIVE);
        for (int i = 0; i < 4; i++) {
            byte[] wrong = end.clone();
            wrong[i]++;
            is("byte " + i + " of the end's sign", wrong, NO_ARCHIVE);
        }
    }

    private int entriesWith(byte[] comment) {
        Zip zip = one();
        zip.comment = comment;
        Desk desk = new Desk();
        desk.check(zip.bytes());
        return desk.message(0, 0) < 10 ? -desk.message(0, 0) : desk.about(0);
    }

    /** An end in the comment of another one: it counts only if it reaches just to the archive's end. */
    private void greatestPlace() {
        String inner = "PK\5\6\0\0\0\0\0\0\0\0\0\0\0\0\0\0\0\0";
        due.is("no comment", entriesWith(new byte[0]), 1);
        due.is("a comment of one byte", entriesWith(new byte[1]), 1);
        due.is("a comment of 300 bytes", entriesWith(new byte[300]), 1);
        due.is("an end in the comment", entriesWith(Zip.latin(inner + "\0\0")), 0);
        due.is("an end amid the comment", entriesWith(Zip.latin("xy" + inner + "\0\0")), 0);
        due.is("one with a comment of its own", entriesWith(Zip.latin(inner + "\2\0xy")), 0);
        due.is("one whose comment is too short", entriesWith(Zip.latin(inner + "\1\0xy")), 1);
        due.is("one whose comment is too long", entriesWith(Zip.latin(inner + "\3\0xy")), 1);
        due.is("one whose comment is far too long", entriesWith(Zip.latin(inner + "\0\1")), 1);
        due.is("one that is cut off", entriesWith(Zip.latin(inner + "\0")), 1);
        due.is("a sign at the very end", entriesWith(Zip.latin("PK\5\6")), 1);
        due.is("a greater one counts even if it is wrong", entriesWith(Zip.latin(inner.replace("\6\0", "\6\1") + "\0\0")), -2);
        Zip zip = one();
        zip.behind = new byte[1];
        is("a byte behind the end", zip.bytes(), NO_ARCHIVE);
        changed("a comment's length without it", row -> row[end(row) + 20] = 1, NO_ARCHIVE);
        changed("its high byte", row -> row[end(row) + 21] = 1, NO_ARCHIVE);
    }

    private void numbersOfTheEnd() {
        for (int at = 4; at < 8; at++) {
            int place = at;
            changed("byte " + at + " of the end isn't 0", row -> row[end(row) + place] = 1, DIRECTORY);
            changed("byte " + at + " of the end is 128", row -> row[end(row) + place] = -128, DIRECTORY);
        }
        for (int at = 8; at < 12; at++) {
            int place = at;
            changed("two numbers of entries that differ in byte " + at, row -> row[end(row) + place] ^= 2, DIRECTORY);
        }
        changed("both say 0", row -> { row[end(row) + 8] = 0; row[end(row) + 10] = 0; }, DIRECTORY);
        changed("both say 2", row -> { row[end(row) + 8] = 2; row[end(row) + 10] = 2; }, DIRECTORY);
        changed("both say 257", row -> { row[end(row) + 9] = 1; row[end(row) + 11] = 1; }, DIRECTORY);
        changed("both say 65535", row -> java.util.Arrays.fill(row, end(row) + 8, end(row) + 12, (byte) -1), DIRECTORY);
    }

    /** Numbers of four are without sign, and their sum doesn't wrap around. */
    private void wrapAround() {
        long[][] beyond = {{0, 4294967295L}, {1, 4294967295L}, {47, 4294967295L}, {4294967295L, 0}, {4294967295L, 1}, {4294967295L, 39},
            {4294967295L, 4294967295L},
            {2147483648L, 2147483648L}, {2147483647L, 2147483647L}, {0, 2147483648L}, {2147483648L, 0}, {4294967249L, 47 + 39}};
        for (long[] pair : beyond) {
            for (int n = 0; n < 2; n++) {
                byte count = (byte) n;
                changed("s " + pair[0] + ", o " + pair[1] + ", n " + n, row -> {
                    row[end(row) + 8] = count;
                    row[end(row) + 10] = count;
                    four(row, end(row) + 12, pair[0]);
                    four(row, end(row) + 16, pair[1]);
                }, DIRECTORY);
            }
        }
    }

    private void noEntries(String what, int s, int o, String want) {
        Zip zip = new Zip();
        zip.lead = new byte[10];
        zip.sizeChange = s;
        zip.placeChange = o - 10;
        is(what, zip.bytes(), want);
    }

    private void whereTheDirectoryLies() {
        noEntries("an empty directory at the end's place", 0, 10, RIGHT);
        noEntries("one at 0", 0, 0, RIGHT);
        noEntries("one amid", 0, 5, RIGHT);
        noEntries("one a byte behind the end's place", 0, 11, DIRECTORY);
        noEntries("one of one byte", 1, 5, DIRECTORY);
        Zip zip = one();
        zip.gap = new byte[1];
        is("a byte between the directory and the end", zip.bytes(), RIGHT);
        zip.gap = new byte[200];
        is("more of them", zip.bytes(), RIGHT);
        zip = one();
        zip.lead = new byte[9];
        is("bytes ahead of the first entry", zip.bytes(), RIGHT);
        changed("a header whose comment is the end's first byte", row -> { row[header(row) + 32] = 1; four(row, end(row) + 12, HEADER
            + 1); }, DIRECTORY);
        zip = one();
        zip.gap = new byte[1];
        byte[] row = zip.bytes();
        row[header(row) - 1 + 32] = 1;
        four(row, end(row) + 12, HEADER + 1);
        is("one whose comment ends just ahead of the end", row, RIGHT);
    }

    private void headers() {
        for (int i = 0; i < 4; i++) {
            int at = i;
            changed("byte " + i + " of a header's sign", row -> row[header(row) + at]++, DIRECTORY);
        }
        changed("byte 34", row -> row[header(row) + 34] = 1, DIRECTORY);
        changed("byte 35", row -> row[header(row) + 35] = 1, DIRECTORY);
        for (int at : new int[] {4, 5, 6, 7, 12, 13, 14, 15, 36, 37, 38, 39, 40, 41}) {
            changed("byte " + at + " is nobody's", row -> row[header(row) + at] = -1, RIGHT);
        }
        Zip zip = one();
        zip.stored("b", new byte[0]);
        byte[] row = zip.bytes();
        row[header(row)]++;
        is("the second header's sign", row, DIRECTORY);
    }

    private void headersThatEndElsewhere() {
        changed("45 bytes for a header", row -> four(row, end(row) + 12, 45), DIRECTORY);
        changed("46 bytes, and no room for its name", row -> four(row, end(row) + 12, 46), DIRECTORY);
        changed("46 bytes without a name", row -> { row[header(row) + 28] = 0; four(row, end(row) + 12, 46); }, RIGHT
            + " 10@0:0:0 15@0:0:0");
        changed("a byte too many", row -> row[header(row) + 28] = 0, DIRECTORY);
        for (int at = 28; at < 34; at++) {
            int place = at;
            changed("a length at byte " + at + " that goes beyond", row -> row[header(row) + place] |= at(place), DIRECTORY);
        }
        Zip zip = one();
        zip.entries.get(0).extra = new byte[260];
        zip.entries.get(0).comment = new byte[258];
        is("an extra field and a comment", zip.bytes(), RIGHT);
        zip = one();
        zip.stored("b", new byte[0]).comment = new byte[1];
        zip.sizeChange = -1;
        is("the last comment a byte too long", zip.bytes(), DIRECTORY);
        zip = one();
        zip.stored("b", new byte[0]);
        zip.entries.get(0).comment = new byte[3];
        is("a comment ahead of another header", zip.bytes(), RIGHT);
        zip.countChange = -1;
        is("a header more than are told", zip.bytes(), DIRECTORY);
        zip.countChange = 1;
        is("a header fewer than are told", zip.bytes(), DIRECTORY);
    }

    /** A bit that isn't set yet in a length of two bytes, the lower at an even place. */
    private static int at(int place) {
        return place % 2 == 0 ? 2 : 1;
    }

    private static Zip many(int n, int size) {
        Zip zip = new Zip();
        for (int i = 0; i < n; i++) {
            zip.deflated("a" + i, new byte[size]);
        }
        return zip;
    }

    private void limits() {
        is("40 entries", many(40, 0).bytes(), RIGHT);
        is("41 entries", many(41, 0).bytes(), LIMIT);
        is("100 entries", many(100, 0).bytes(), LIMIT);
        for (int length : new int[] {99, 100, 101, 256, 300}) {
            Zip zip = many(2, 0);
            zip.stored("n".repeat(length), new byte[0]);
            is("a name of " + length, zip.bytes(), length > 100 ? LIMIT : RIGHT);
        }
        Zip wide = new Zip();
        wide.stored("\u00e9".repeat(50), new byte[0]);
        is("a name of 50 chars, 100 bytes", wide.bytes(), RIGHT);
        wide.stored("\u00e9".repeat(50) + "a", new byte[0]);
        is("a name of 51 chars, 101 bytes", wide.bytes(), LIMIT);
        for (int size : new int[] {5999, 6000, 6001}) {
            is("a size of " + size, many(1, size).bytes(), size > 6000 ? LIMIT : RIGHT);
        }
        is("sizes of 24000 together", many(4, 6000).bytes(), RIGHT);
        Zip zip = many(4, 6000);
        zip.stored("b", new byte[0]);
        is("and one of 0", zip.bytes(), RIGHT);
        zip.stored("c", new byte[1]);
        is("and one of 1", zip.bytes(), LIMIT);
        is("forty of 600", many(40, 600).bytes(), RIGHT);
        is("forty of 601", many(40, 601).bytes(), LIMIT);
        for (long size : new long[] {6001, 2147483647L, 2147483648L, 4294967295L}) {
            zip = one();
            zip.entries.get(0).size = size;
            is("a told size of " + size, zip.bytes(), LIMIT);
        }
        zip = one();
        zip.entries.get(0).packed = 4294967295L;
        is("what is packed has no limit", zip.bytes(), RIGHT + " 15@0:0:0");
    }

    /** The limits are looked at behind 1 and 2, ahead of all else. */
    private void limitsBehindTheDirectory() {
        Zip zip = many(41, 0);
        zip.entries.get(40).disk = 1;
        is("41 entries, the last of them wrong", zip.bytes(), DIRECTORY);
        zip = many(41, 0);
        zip.sizeChange = -1;
        is("41 entries, cut short", zip.bytes(), DIRECTORY);
        zip = many(1, 6001);
        zip.secondCountChange = 1;
        is("a size above, and two counts", zip.bytes(), DIRECTORY);
        zip = new Zip();
        zip.stored("n".repeat(101), new byte[0]);
        zip.behind = new byte[1];
        is("a name above, and no end", zip.bytes(), NO_ARCHIVE);
        zip = new Zip();
        zip.stored("/" + "n".repeat(100), new byte[0]).flags = 1;
        is("a name above, and wrong", zip.bytes(), LIMIT);
    }
}
