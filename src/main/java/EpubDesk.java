import java.util.Arrays;

/** A checker and reading core for books in archives. What each call promises stands in the project's document. */
public final class EpubDesk {
    public static final int NONE = -1;

    private static final int TAPE_BYTES = 16000;
    private static final int FEED_BYTES = 20;
    private static final int NO_SUCH = -3;
    private static final int NO_WHAT = -2;

    private final Report report = new Report();
    private final Archive archive = new Archive(report);
    // The package's document is asked until the last rule is done, so the others are read into one beside it.
    private final Doc pack = new Doc();
    private final Doc doc = new Doc();
    private final Parser parser = new Parser(report, archive, doc);
    private final Paths paths = new Paths(archive);
    private final Manifest manifest = new Manifest(report, archive, paths, pack);
    private final Content content = new Content(report, archive, parser, paths, doc, manifest);
    private final Overlays overlays = new Overlays(report, archive, parser, paths, doc, manifest);
    private final Metadata metadata = new Metadata(report, pack, manifest, overlays);
    private final Cipher cipher = new Cipher(report, archive, parser, paths, doc);

    private int[] tape = new int[TAPE_BYTES];
    private int tapeSize = 0;
    private int[] input = new int[TAPE_BYTES];
    private int inputSize = 0;
    private int[] spent = new int[TAPE_BYTES];
    private boolean checked = false;
    private int packEntry = NONE;
    private int packElements = 0;

    public EpubDesk() {
    }

    public boolean feed(int a, int b, int c, int d, int e) {
        if (tapeSize > TAPE_BYTES - FEED_BYTES) {
            return false;
        }
        put(a);
        put(b);
        put(c);
        put(d);
        put(e);
        return true;
    }

    private void put(int number) {
        for (int shift = 24; shift >= 0; shift -= 8) {
            tape[tapeSize] = number >>> shift & 255;
            tapeSize++;
        }
    }

    public boolean end(int n) {
        if (n < 0 || n > tapeSize) {
            return false;
        }
        int[] cut = tape;
        tape = input;
        tapeSize = 0;
        input = cut;
        inputSize = n;
        return true;
    }

    public int check() {
        int size = takeInput();
        if (archive.open(spent, size)) {
            archive.look();
            packEntry = findPackage();
            boolean sound = readPackage();
            if (sound) {
                metadata.look();
                manifest.look(packEntry, metadata.manifestAt, metadata.spineAt);
                content.look();
                overlays.look();
                metadata.lookAtDurations();
            }
            if (cipher.look()) {
                cipher.turn(pack, sound ? metadata.identifier : NONE);
            }
        }
        return report.count;
    }

    /** Makes the input the archive, and forgets all that was found in the one before. */
    private int takeInput() {
        int size = inputSize;
        int[] old = spent;
        spent = input;
        input = old;
        inputSize = 0;
        checked = true;
        packEntry = NONE;
        packElements = 0;
        report.clear();
        manifest.clear();
        content.clear();
        cipher.clear();
        return size;
    }

    /** The entry of the package that the container tells, or NONE. */
    private int findPackage() {
        int at = archive.container;
        if (at == NONE) {
            report.add(Report.NO_CONTAINER, NONE, 0);
            return NONE;
        }
        if (!archive.isRead(at) || !parser.parse(doc, at)) {
            return NONE;
        }
        if (!doc.is(0, Doc.CONTAINER, "container") || !doc.valueIs(doc.attr(0, "version"), "1.0")) {
            report.add(Report.CONTAINER_ROOT, at, doc.place[0]);
            return NONE;
        }
        int rootfile = findRootfile();
        if (rootfile == NONE) {
            report.add(Report.NO_ROOTFILE, at, doc.place[0]);
            return NONE;
        }
        int path = doc.attr(rootfile, "full-path");
        int found = path == NONE ? Paths.BAD : paths.resolve(doc, path, at, true);
        if (found < 0) {
            report.add(Report.ROOTFILE_PATH, at, doc.place[rootfile]);
            return NONE;
        }
        return found;
    }

    private int findRootfile() {
        for (int list = 1; list < doc.elements; list = doc.behind(list)) {
            if (!doc.is(list, Doc.CONTAINER, "rootfiles")) {
                continue;
            }
            for (int file = list + 1; file <= doc.last[list]; file = doc.behind(file)) {
                if (doc.is(file, Doc.CONTAINER, "rootfile")
                        && doc.valueIs(doc.attr(file, "media-type"), "application/oebps-package+xml")) {
                    return file;
                }
            }
        }
        return NONE;
    }

    /** Whether there is a package whose parts can be looked at. */
    private boolean readPackage() {
        if (packEntry == NONE || !archive.isRead(packEntry) || !parser.parse(pack, packEntry)) {
            return false;
        }
        packElements = pack.elements;
        return metadata.open(packEntry);
    }

    public int message(int i, int what) {
        if (i < 0 || i >= report.count) {
            return NO_SUCH;
        }
        switch (what) {
            case 0:
                return report.codeOf(i);
            case 1:
                return report.severityOf(i);
            case 2:
                return report.entryOf(i);
            case 3:
                return report.lineOf(i);
            case 4:
                return report.columnOf(i);
            default:
                return NO_WHAT;
        }
    }

    public int about(int what) {
        if (!checked) {
            return NONE;
        }
        switch (what) {
            case 0:
                return archive.count;
            case 1:
                return archive.readCount;
            case 2:
                return packEntry;
            case 3:
                return manifest.navigationEntry();
            case 4:
                return manifest.orderCount;
            case 5:
                return content.count;
            case 6:
                return manifest.items;
            case 7:
                return cipher.count;
            case 8:
                return packElements;
            default:
                return NONE;
        }
    }

    public int entry(int i, int what) {
        if (!archive.has(i)) {
            return NONE;
        }
        switch (what) {
            case 0:
                return archive.sizeOf(i);
            case 1:
                return (int) Math.min(archive.packedOf(i), 2147483647L);
            case 2:
                return archive.methodOf(i);
            case 3:
                return archive.isRead(i) ? 1 : 0;
            case 4:
                return archive.nameLength[i];
            case 5:
                return cipher.isTurned(i) ? 1 : 0;
            default:
                return NONE;
        }
    }

    public int name(int i, int k) {
        if (!archive.has(i) || k < 0 || k >= archive.nameLength[i]) {
            return NONE;
        }
        return archive.byteAt(archive.nameAt[i] + k);
    }

    public int resource(int i, int k) {
        if (!archive.has(i) || !archive.isRead(i) || k < 0 || k >= archive.sizeOf(i)) {
            return NONE;
        }
        return archive.data[archive.dataAt[i] + k] ^ cipher.maskAt(i, k);
    }

    public int order(int i) {
        if (i < 0 || i >= manifest.orderCount) {
            return NONE;
        }
        return manifest.reading[i];
    }

    public int contents(int i, int what) {
        if (i < 0 || i >= content.count) {
            return NO_SUCH;
        }
        switch (what) {
            case 0:
                return content.level[i];
            case 1:
                return content.target[i];
            case 2:
                return content.labelLength(i);
            default:
                return NO_WHAT;
        }
    }

    public int label(int i, int k) {
        if (i < 0 || i >= content.count || k < 0 || k >= content.labelLength(i)) {
            return NONE;
        }
        return content.labels[content.labelAt[i] + k];
    }

    /** Questions about rows of bytes that every part asks. */
    private static final class Bytes {
        private Bytes() {
        }

        static boolean isBlank(int c) {
            return c == 32 || c == 10 || c == 13 || c == 9;
        }

        static boolean isDigit(int c) {
            return c >= '0' && c <= '9';
        }

        static boolean isLetter(int c) {
            return c >= 'A' && c <= 'Z' || c >= 'a' && c <= 'z';
        }

        /** A capital of A to Z as its small letter; all else as it is. */
        static int small(int c) {
            return c >= 'A' && c <= 'Z' ? c + 32 : c;
        }

        /** What a hex digit counts, or NONE. */
        static int hex(int c) {
            if (c >= '0' && c <= '9') {
                return c - '0';
            }
            if (c >= 'a' && c <= 'f') {
                return c - 'a' + 10;
            }
            return c >= 'A' && c <= 'F' ? c - 'A' + 10 : NONE;
        }

        static boolean is(int[] row, int from, int length, String text) {
            if (length != text.length() || from < 0 || from + length > row.length) {
                return false;
            }
            for (int i = 0; i < length; i++) {
                if (row[from + i] != text.charAt(i)) {
                    return false;
                }
            }
            return true;
        }

        static boolean begins(int[] row, int from, int length, String text) {
            return length >= text.length() && is(row, from, text.length(), text);
        }

        static boolean same(int[] one, int from, int[] other, int start, int length) {
            if (from < 0 || start < 0 || from + length > one.length || start + length > other.length) {
                return false;
            }
            for (int i = 0; i < length; i++) {
                if (one[from + i] != other[start + i]) {
                    return false;
                }
            }
            return true;
        }

        /** Whether the bytes are one of the words, which stand in one text with a space behind each. */
        static boolean isOneOf(int[] row, int from, int length, String words) {
            int start = 0;
            for (int i = 0; i < words.length(); i++) {
                if (words.charAt(i) != ' ') {
                    continue;
                }
                if (i - start == length && stands(row, from, words, start, length)) {
                    return true;
                }
                start = i + 1;
            }
            return false;
        }

        private static boolean stands(int[] row, int from, String words, int start, int length) {
            for (int i = 0; i < length; i++) {
                if (row[from + i] != words.charAt(start + i)) {
                    return false;
                }
            }
            return true;
        }

        static int skipBlanks(int[] row, int from, int to) {
            int at = from;
            while (at < to && isBlank(row[at])) {
                at++;
            }
            return at;
        }

        static int wordEnd(int[] row, int from, int to) {
            int at = from;
            while (at < to && !isBlank(row[at])) {
                at++;
            }
            return at;
        }

        static int digitsEnd(int[] row, int from, int to) {
            int at = from;
            while (at < to && row[at] >= '0' && row[at] <= '9') {
                at++;
            }
            return at;
        }

        /** The char whose UTF-8 begins here, or NONE if these bytes are no UTF-8. */
        static int decode(int[] row, int at, int to) {
            if (at < 0 || at >= to || to > row.length) {
                return NONE;
            }
            int lead = row[at];
            if (lead < 128) {
                return lead;
            }
            int more = lead < 0xC2 || lead > 0xF4 ? 0 : lead < 0xE0 ? 1 : lead < 0xF0 ? 2 : 3;
            if (more == 0 || at + more >= to) {
                return NONE;
            }
            int c = lead & 0x3F >> more;
            for (int i = 1; i <= more; i++) {
                int next = row[at + i];
                if ((next & 0xC0) != 0x80) {
                    return NONE;
                }
                c = c << 6 | next & 0x3F;
            }
            boolean tooLong = more == 2 && c < 0x800 || more == 3 && c < 0x10000;
            boolean surrogate = c >= 0xD800 && c <= 0xDFFF;
            return tooLong || surrogate || c > 0x10FFFF ? NONE : c;
        }

        /** How many bytes the char has in UTF-8. */
        static int width(int c) {
            return c < 0x80 ? 1 : c < 0x800 ? 2 : c < 0x10000 ? 3 : 4;
        }
    }

    /** The messages, kept once each and in order: each is one number that sorts as they do. */
    private static final class Report {
        static final int NO_ARCHIVE = 1;
        static final int DIRECTORY = 2;
        static final int LIMIT = 3;
        static final int NAME_WRONG = 10;
        static final int NAME_AGAIN = 11;
        static final int NAME_CAPITALS = 12;
        static final int LOCKED = 13;
        static final int METHOD = 14;
        static final int HEADER = 15;
        static final int DATA = 16;
        static final int PACKING = 17;
        static final int SUM = 18;
        static final int NO_MIMETYPE = 20;
        static final int MIMETYPE = 21;
        static final int NO_CONTAINER = 22;
        static final int PREFIX = 23;
        static final int OVERLAY_LOST = 24;
        static final int SMIL_ROOT = 26;
        static final int SMIL_PARTS = 27;
        static final int SMIL_SOURCE = 28;
        static final int SMIL_CLIP = 29;
        static final int NOT_WELL_FORMED = 30;
        static final int TOO_MUCH = 31;
        static final int META_EMPTY = 32;
        static final int META_REFINES = 33;
        static final int META_CIRCLE = 34;
        static final int META_PROPERTY = 35;
        static final int DURATION_OF_ONE = 36;
        static final int DURATION_OF_ALL = 37;
        static final int CONTAINER_ROOT = 40;
        static final int NO_ROOTFILE = 41;
        static final int ROOTFILE_PATH = 42;
        static final int COVER_COUNT = 43;
        static final int COVER_TYPE = 44;
        static final int PROPERTY = 45;
        static final int PICTURE_TYPE = 46;
        static final int NAV_AGAIN = 47;
        static final int NAV_FLAT = 48;
        static final int PACKAGE_ROOT = 50;
        static final int NO_IDENTIFIER = 51;
        static final int PACKAGE_PARTS = 52;
        static final int NO_TITLE = 53;
        static final int NO_LANGUAGE = 54;
        static final int NO_NUMBER = 55;
        static final int MODIFIED = 56;
        static final int ITEM_LACKS = 57;
        static final int ID_AGAIN = 58;
        static final int ITEM_PATH = 59;
        static final int ITEM_MISSING = 60;
        static final int ITEM_AGAIN = 61;
        static final int FALLBACK_LOST = 62;
        static final int FALLBACK_CIRCLE = 63;
        static final int NAV_COUNT = 64;
        static final int NAV_TYPE = 65;
        static final int REF_LOST = 66;
        static final int REF_AGAIN = 67;
        static final int NOTHING_LINEAR = 68;
        static final int REF_TYPE = 69;
        static final int TOC_COUNT = 70;
        static final int NAV_PARTS = 71;
        static final int NO_TARGET = 72;
        static final int TARGET_OUTSIDE = 73;
        static final int NO_LABEL = 74;
        static final int CONTENT_ROOT = 75;
        static final int IMAGE = 76;
        static final int LINK = 77;
        static final int ENCRYPTION_ROOT = 80;
        static final int ENCRYPTION_METHOD = 81;
        static final int CIPHER_REFERENCE = 82;
        static final int STRAY = 90;

        // Elements are at least six bytes long where they are told of, and all sizes are 24000 at most.
        private static final int MOST = 6000;
        private static final int COLUMN_BITS = 13;
        private static final int PLACE_BITS = 26;
        private static final int CODE_BITS = 7;

        private final long[] keys = new long[MOST];
        int count = 0;

        void clear() {
            count = 0;
        }

        /** A line and a column in one number that sorts as they do: a document has fewer than 8192 of each. */
        static int placeOf(int line, int column) {
            return line << COLUMN_BITS | column;
        }

        void add(int code, int entry, int place) {
            long key = ((long) (entry + 1) << PLACE_BITS | place) << CODE_BITS | code;
            int low = 0;
            int high = count;
            while (low < high) {
                int middle = (low + high) / 2;
                if (keys[middle] < key) {
                    low = middle + 1;
                } else {
                    high = middle;
                }
            }
            if (count >= MOST || low < count && keys[low] == key) {
                return;
            }
            System.arraycopy(keys, low, keys, low + 1, count - low);
            keys[low] = key;
            count++;
        }

        int codeOf(int i) {
            return (int) (keys[i] & (1 << CODE_BITS) - 1);
        }

        int severityOf(int i) {
            int code = codeOf(i);
            return code < 10 ? 1 : code < 90 ? 2 : 3;
        }

        int entryOf(int i) {
            return (int) (keys[i] >>> CODE_BITS + PLACE_BITS) - 1;
        }

        int lineOf(int i) {
            return (int) (keys[i] >>> CODE_BITS + COLUMN_BITS) & (1 << COLUMN_BITS) - 1;
        }

        int columnOf(int i) {
            return (int) (keys[i] >>> CODE_BITS) & (1 << COLUMN_BITS) - 1;
        }
    }

    /** The archive's directory, its entries' names, and the bytes of those that can be read. */
    private static final class Archive {
        static final int MOST_ENTRIES = 40;
        static final int MOST_SIZE = 6000;
        private static final int MOST_NAME = 100;
        private static final int MOST_DATA = 24000;
        private static final int END_BYTES = 22;
        private static final int HEADER_BYTES = 46;
        private static final int LOCAL_BYTES = 30;
        private static final int STORED = 0;
        private static final int DEFLATED = 8;
        // The sums of four bits each; two steps with them make up for the usual row of 256.
        private static final int[] SUMS = {
            0x00000000, 0x1DB71064, 0x3B6E20C8, 0x26D930AC, 0x76DC4190, 0x6B6B51F4, 0x4DB26158, 0x5005713C,
            0xEDB88320, 0xF00F9344, 0xD6D6A3E8, 0xCB61B38C, 0x9B64C2B0, 0x86D3D2D4, 0xA00AE278, 0xBDBDF21C
        };

        private final Report report;
        private final Inflater inflater = new Inflater();
        final int[] data = new int[MOST_DATA];
        final int[] dataAt = new int[MOST_ENTRIES];
        private final int[] headerAt = new int[MOST_ENTRIES];
        final int[] nameAt = new int[MOST_ENTRIES];
        final int[] nameLength = new int[MOST_ENTRIES];
        private final boolean[] readable = new boolean[MOST_ENTRIES];
        private final boolean[] misnamed = new boolean[MOST_ENTRIES];
        private int[] bytes = new int[0];
        private int size = 0;
        private int directory = 0;
        int count = 0;
        int readCount = 0;
        int container = NONE;

        Archive(Report report) {
            this.report = report;
        }

        /** Finds the directory of a new archive; false, with the one message told, if that ends the check. */
        boolean open(int[] row, int length) {
            bytes = row;
            size = length;
            count = 0;
            readCount = 0;
            container = NONE;
            int p = findEnd();
            int fault = p == NONE ? Report.NO_ARCHIVE : walkDirectory(p);
            if (fault != 0) {
                report.add(fault, NONE, 0);
                return false;
            }
            count = Math.min(two(p + 8), MOST_ENTRIES);
            for (int i = 0; i < count; i++) {
                nameAt[i] = headerAt[i] + HEADER_BYTES;
                nameLength[i] = two(headerAt[i] + 28);
            }
            container = findText("META-INF/container.xml");
            return true;
        }

        private int findEnd() {
            for (int p = size - END_BYTES; p >= 0; p--) {
                if (isSign(p, 5, 6) && p + END_BYTES + two(p + 20) == size) {
                    return p;
                }
            }
            return NONE;
        }

        private int walkDirectory(int p) {
            int n = two(p + 8);
            long length = four(p + 12);
            long from = four(p + 16);
            if (two(p + 4) != 0 || two(p + 6) != 0 || n != two(p + 10) || from + length > p) {
                return Report.DIRECTORY;
            }
            directory = (int) from;
            int stop = (int) (from + length);
            int at = directory;
            long total = 0;
            boolean over = n > MOST_ENTRIES;
            for (int i = 0; i < n; i++) {
                if (at + HEADER_BYTES > stop || !isSign(at, 1, 2) || two(at + 34) != 0) {
                    return Report.DIRECTORY;
                }
                if (i < MOST_ENTRIES) {
                    headerAt[i] = at;
                }
                over = over || two(at + 28) > MOST_NAME || four(at + 24) > MOST_SIZE;
                total += four(at + 24);
                at += HEADER_BYTES + two(at + 28) + two(at + 30) + two(at + 32);
            }
            if (at != stop) {
                return Report.DIRECTORY;
            }
            return over || total > MOST_DATA ? Report.LIMIT : 0;
        }

        /** Tells what is wrong with each entry, and gets the bytes of those that are right. */
        void look() {
            int at = 0;
            for (int i = 0; i < count; i++) {
                lookAtName(i);
                dataAt[i] = at;
                int fault = faultOf(i);
                readable[i] = fault == 0;
                if (fault == 0) {
                    readCount++;
                } else {
                    report.add(fault, i, 0);
                }
                at += sizeOf(i);
            }
            lookAtMimetype();
        }

        private void lookAtName(int i) {
            boolean wrong = !isNameRight(i);
            boolean again = false;
            boolean alike = false;
            for (int j = 0; j < i; j++) {
                if (nameLength[j] == nameLength[i]) {
                    again = again || Bytes.same(bytes, nameAt[j], bytes, nameAt[i], nameLength[i]);
                    alike = alike || isNameAlike(j, i);
                }
            }
            if (wrong) {
                report.add(Report.NAME_WRONG, i, 0);
            }
            if (again) {
                report.add(Report.NAME_AGAIN, i, 0);
            } else if (alike) {
                report.add(Report.NAME_CAPITALS, i, 0);
            }
            misnamed[i] = wrong || again;
        }

        private boolean isNameRight(int i) {
            int at = nameAt[i];
            int stop = at + nameLength[i];
            int before = '/';
            while (at < stop) {
                int c = Bytes.decode(bytes, at, stop);
                if (c < 32 || c == 127 || c < 128 && Bytes.isOneOf(bytes, at, 1, "\" * : < > ? \\ | ")) {
                    return false;
                }
                if (c == '/' && (before == '/' || before == '.')) {
                    return false;
                }
                before = c;
                at += Bytes.width(c);
            }
            return before != '/' && before != '.';
        }

        private boolean isNameAlike(int j, int i) {
            for (int k = 0; k < nameLength[i]; k++) {
                if (Bytes.small(byteAt(nameAt[j] + k)) != Bytes.small(byteAt(nameAt[i] + k))) {
                    return false;
                }
            }
            return true;
        }

        /** The code of what keeps the entry's bytes from being read, or 0; it leaves them in the data. */
        private int faultOf(int i) {
            if ((two(headerAt[i] + 8) & 1) != 0) {
                return Report.LOCKED;
            }
            if (methodOf(i) != STORED && methodOf(i) != DEFLATED) {
                return Report.METHOD;
            }
            if (!isLocalRight(i)) {
                return Report.HEADER;
            }
            if (packedStop(i) > directory) {
                return Report.DATA;
            }
            int from = (int) (packedStop(i) - packedOf(i));
            if (methodOf(i) == STORED) {
                if (packedOf(i) != sizeOf(i)) {
                    return Report.PACKING;
                }
                System.arraycopy(bytes, from, data, dataAt[i], sizeOf(i));
            } else if (!inflater.inflate(bytes, from, (int) packedOf(i), data, dataAt[i], sizeOf(i))) {
                return Report.PACKING;
            }
            return sumOf(i) == four(headerAt[i] + 16) ? 0 : Report.SUM;
        }

        private boolean isLocalRight(int i) {
            long place = placeOf(i);
            if (place + LOCAL_BYTES + nameLength[i] > directory) {
                return false;
            }
            int at = (int) place;
            int header = headerAt[i];
            if (!isSign(at, 3, 4) || two(at + 8) != methodOf(i) || two(at + 26) != nameLength[i]) {
                return false;
            }
            boolean later = (two(header + 8) & 8) != 0;
            return (later || Bytes.same(bytes, at + 14, bytes, header + 16, 12))
                    && Bytes.same(bytes, at + LOCAL_BYTES, bytes, nameAt[i], nameLength[i]);
        }

        /** Where the entry's data ends; asked only of one whose local header is right. */
        private long packedStop(int i) {
            int at = (int) placeOf(i);
            return placeOf(i) + LOCAL_BYTES + two(at + 26) + two(at + 28) + packedOf(i);
        }

        private long sumOf(int i) {
            int sum = -1;
            int stop = dataAt[i] + sizeOf(i);
            for (int at = dataAt[i]; at < stop; at++) {
                sum ^= data[at];
                sum = sum >>> 4 ^ SUMS[sum & 15];
                sum = sum >>> 4 ^ SUMS[sum & 15];
            }
            return ~sum & 0xFFFFFFFFL;
        }

        private void lookAtMimetype() {
            int i = findText("mimetype");
            if (i == NONE) {
                report.add(Report.NO_MIMETYPE, NONE, 0);
                return;
            }
            int first = 0;
            for (int j = 1; j < count; j++) {
                if (placeOf(j) < placeOf(first)) {
                    first = j;
                }
            }
            boolean right = i == first && methodOf(i) == STORED;
            if (isLocalRight(i) && packedStop(i) <= directory) {
                right = right && two((int) placeOf(i) + 28) == 0;
            }
            if (isRead(i)) {
                right = right && Bytes.is(data, dataAt[i], sizeOf(i), "application/epub+zip");
            }
            if (!right) {
                report.add(Report.MIMETYPE, i, 0);
            }
        }

        /** The first entry with this name, or NONE. */
        int find(int[] row, int from, int length) {
            for (int i = 0; i < count; i++) {
                if (nameLength[i] == length && Bytes.same(bytes, nameAt[i], row, from, length)) {
                    return i;
                }
            }
            return NONE;
        }

        int findText(String text) {
            for (int i = 0; i < count; i++) {
                if (Bytes.is(bytes, nameAt[i], nameLength[i], text)) {
                    return i;
                }
            }
            return NONE;
        }

        /** Whether an entry outside the package may be told: some may lie beside it. */
        boolean isStray(int i) {
            return !misnamed[i] && !Bytes.is(bytes, nameAt[i], nameLength[i], "mimetype")
                    && !Bytes.begins(bytes, nameAt[i], nameLength[i], "META-INF/");
        }

        boolean has(int i) {
            return i >= 0 && i < count;
        }

        boolean isRead(int i) {
            return readable[i];
        }

        int methodOf(int i) {
            return two(headerAt[i] + 10);
        }

        long packedOf(int i) {
            return four(headerAt[i] + 20);
        }

        int sizeOf(int i) {
            return (int) four(headerAt[i] + 24);
        }

        private long placeOf(int i) {
            return four(headerAt[i] + 42);
        }

        int byteAt(int at) {
            return at >= 0 && at < size ? bytes[at] : 0;
        }

        private int two(int at) {
            return byteAt(at) | byteAt(at + 1) << 8;
        }

        private long four(int at) {
            return two(at) | (long) two(at + 2) << 16;
        }

        private boolean isSign(int at, int third, int fourth) {
            return byteAt(at) == 80 && byteAt(at + 1) == 75 && byteAt(at + 2) == third && byteAt(at + 3) == fourth;
        }
    }

    /** Turns deflated bytes back. */
    private static final class Inflater {
        private static final int[] LENGTHS = {
            3, 4, 5, 6, 7, 8, 9, 10, 11, 13, 15, 17, 19, 23, 27, 31, 35, 43, 51, 59, 67, 83, 99, 115, 131, 163, 195, 227, 258
        };
        private static final int[] LENGTH_BITS = {
            0, 0, 0, 0, 0, 0, 0, 0, 1, 1, 1, 1, 2, 2, 2, 2, 3, 3, 3, 3, 4, 4, 4, 4, 5, 5, 5, 5, 0
        };
        private static final int[] DISTANCES = {
            1, 2, 3, 4, 5, 7, 9, 13, 17, 25, 33, 49, 65, 97, 129, 193, 257, 385, 513, 769, 1025, 1537, 2049, 3073,
            4097, 6145, 8193, 12289, 16385, 24577
        };
        private static final int[] DISTANCE_BITS = {
            0, 0, 0, 0, 1, 1, 2, 2, 3, 3, 4, 4, 5, 5, 6, 6, 7, 7, 8, 8, 9, 9, 10, 10, 11, 11, 12, 12, 13, 13
        };
        private static final int[] TOLD_ORDER = {16, 17, 18, 0, 8, 7, 9, 6, 10, 5, 11, 4, 12, 3, 13, 2, 14, 1, 15};
        private static final int LONGEST = 15;
        private static final int STOP = 256;
        private static final int MOST_LETTERS = 286;
        private static final int MOST_DISTANCES = 30;

        private final int[] lengths = new int[320];
        private final int[] letterCounts = new int[LONGEST + 1];
        private final int[] letters = new int[288];
        private final int[] distanceCounts = new int[LONGEST + 1];
        private final int[] distances = new int[32];
        private final int[] places = new int[LONGEST + 1];
        private int[] in = new int[0];
        private int bitAt = 0;
        private int bitStop = 0;
        private int[] out = new int[0];
        private int outFrom = 0;
        private int outAt = 0;
        private int outStop = 0;

        /** Whether these are deflated bytes of just this size that use just so many bytes. */
        boolean inflate(int[] row, int from, int packed, int[] into, int start, int size) {
            in = row;
            bitAt = from * 8;
            bitStop = (from + packed) * 8;
            out = into;
            outFrom = start;
            outAt = start;
            outStop = start + size;
            boolean right = true;
            boolean over = false;
            for (int round = bitAt; right && !over && round < bitStop && bitAt < bitStop; round++) {
                over = bits(1) == 1;
                int kind = bits(2);
                if (kind == 0) {
                    right = stored();
                } else if (kind == 1) {
                    fixedCodes();
                    right = block();
                } else {
                    right = kind == 2 && toldCodes() && block();
                }
            }
            return right && over && outAt == outStop && bitStop - bitAt < 8;
        }

        /** The next bits as a number, the first one lowest; NONE if there aren't so many. */
        private int bits(int n) {
            if (bitAt + n > bitStop) {
                bitAt = bitStop;
                return NONE;
            }
            int number = 0;
            for (int i = 0; i < n; i++) {
                number |= (in[bitAt >> 3] >> (bitAt & 7) & 1) << i;
                bitAt++;
            }
            return number;
        }

        private boolean stored() {
            bitAt = bitAt + 7 & -8;
            int length = bits(16);
            int turned = bits(16);
            if (length < 0 || turned < 0 || (length ^ 0xFFFF) != turned
                    || length > (bitStop - bitAt) / 8 || length > outStop - outAt) {
                return false;
            }
            System.arraycopy(in, bitAt >> 3, out, outAt, length);
            outAt += length;
            bitAt += length * 8;
            return true;
        }

        private void fixedCodes() {
            setLengths(0, 144, 8);
            setLengths(144, 256, 9);
            setLengths(256, 280, 7);
            setLengths(280, 288, 8);
            sortCodes(letterCounts, letters, 0, 288);
            setLengths(0, 32, 5);
            sortCodes(distanceCounts, distances, 0, 32);
        }

        private void setLengths(int from, int to, int length) {
            for (int i = from; i < to; i++) {
                lengths[i] = length;
            }
        }

        private boolean toldCodes() {
            int letterCodes = bits(5) + 257;
            int distanceCodes = bits(5) + 1;
            int told = bits(4) + 4;
            if (told < 4 || letterCodes > MOST_LETTERS || distanceCodes > MOST_DISTANCES) {
                return false;
            }
            setLengths(0, 19, 0);
            for (int i = 0; i < told; i++) {
                int length = bits(3);
                if (length < 0) {
                    return false;
                }
                lengths[TOLD_ORDER[i]] = length;
            }
            if (sortCodes(letterCounts, letters, 0, 19) != 0 || !toldLengths(letterCodes + distanceCodes)
                    || lengths[STOP] == 0) {
                return false;
            }
            int spare = sortCodes(letterCounts, letters, 0, letterCodes);
            boolean alone = lengths[STOP] == 1 && letterCounts[0] == letterCodes - 1;
            if (spare < 0 || spare > 0 && !alone) {
                return false;
            }
            spare = sortCodes(distanceCounts, distances, letterCodes, distanceCodes);
            boolean few = distanceCounts[0] == distanceCodes
                    || distanceCounts[0] == distanceCodes - 1 && distanceCounts[1] == 1;
            return spare == 0 || spare > 0 && few;
        }

        /** Reads the lengths of all codes by the code for lengths, which stands where the letters' will. */
        private boolean toldLengths(int all) {
            int at = 0;
            while (at < all) {
                int symbol = symbol(letterCounts, letters);
                if (symbol < 0) {
                    return false;
                }
                if (symbol < 16) {
                    lengths[at] = symbol;
                    at++;
                    continue;
                }
                if (symbol == 16 && at == 0) {
                    return false;
                }
                int length = symbol == 16 ? lengths[at - 1] : 0;
                int extra = bits(symbol == 16 ? 2 : symbol == 17 ? 3 : 7);
                int times = extra + (symbol == 18 ? 11 : 3);
                if (extra < 0 || times > all - at) {
                    return false;
                }
                setLengths(at, at + times, length);
                at += times;
            }
            return true;
        }

        /** Sorts the codes by their lengths: how much room they leave (below 0: over-subscribed, 0: complete). */
        private int sortCodes(int[] counts, int[] symbols, int from, int n) {
            Arrays.fill(counts, 0);
            for (int i = 0; i < n; i++) {
                counts[lengths[from + i]]++;
            }
            int left = 1;
            places[1] = 0;
            for (int length = 1; length <= LONGEST; length++) {
                left = left * 2 - counts[length];
                if (left < 0) {
                    return left;
                }
                if (length < LONGEST) {
                    places[length + 1] = places[length] + counts[length];
                }
            }
            for (int i = 0; i < n; i++) {
                int length = lengths[from + i];
                if (length != 0) {
                    symbols[places[length]] = i;
                    places[length]++;
                }
            }
            return left;
        }

        /** The next symbol by a code, or NONE. */
        private int symbol(int[] counts, int[] symbols) {
            int code = 0;
            int first = 0;
            int index = 0;
            for (int length = 1; length <= LONGEST; length++) {
                int bit = bits(1);
                if (bit < 0) {
                    return NONE;
                }
                code |= bit;
                if (code - first < counts[length]) {
                    return symbols[index + code - first];
                }
                index += counts[length];
                first = first + counts[length] << 1;
                code <<= 1;
            }
            return NONE;
        }

        private boolean block() {
            for (int round = bitAt; round < bitStop && bitAt < bitStop; round++) {
                int letter = symbol(letterCounts, letters);
                if (letter == STOP) {
                    return true;
                }
                if (letter < 0 || letter >= MOST_LETTERS) {
                    return false;
                }
                if (letter > STOP) {
                    if (!copy(letter - STOP - 1)) {
                        return false;
                    }
                } else if (outAt < outStop) {
                    out[outAt] = letter;
                    outAt++;
                } else {
                    return false;
                }
            }
            return false;
        }

        private boolean copy(int which) {
            int extra = bits(LENGTH_BITS[which]);
            int symbol = symbol(distanceCounts, distances);
            if (extra < 0 || symbol < 0 || symbol >= MOST_DISTANCES) {
                return false;
            }
            int length = LENGTHS[which] + extra;
            int more = bits(DISTANCE_BITS[symbol]);
            int distance = DISTANCES[symbol] + more;
            if (more < 0 || distance > outAt - outFrom || length > outStop - outAt) {
                return false;
            }
            for (int i = 0; i < length; i++) {
                out[outAt] = out[outAt - distance];
                outAt++;
            }
            return true;
        }
    }

    /** One parsed document: its elements in their order, with their attributes, values and texts. */
    private static final class Doc {
        static final int XML = 1;
        static final int CONTAINER = 2;
        static final int OPF = 3;
        static final int DC = 4;
        static final int XHTML = 5;
        static final int OPS = 6;
        static final int SMIL = 7;
        static final int ENC = 8;
        private static final int OTHER = 9;
        static final int MOST_ELEMENTS = 300;
        // An attribute is at least five bytes of a document's 6000.
        private static final int MOST_ATTRIBUTES = 1200;
        private static final int BRIEF = 32;

        final int[] place = new int[MOST_ELEMENTS];
        /** The last element that lies in this one, or itself. */
        final int[] last = new int[MOST_ELEMENTS];
        final int[] nameAt = new int[MOST_ELEMENTS];
        final int[] nameLength = new int[MOST_ELEMENTS];
        final int[] space = new int[MOST_ELEMENTS];
        private final int[] attrFrom = new int[MOST_ELEMENTS];
        private final int[] textFrom = new int[MOST_ELEMENTS];
        private final int[] textTo = new int[MOST_ELEMENTS];
        final int[] attrAt = new int[MOST_ATTRIBUTES];
        final int[] attrLength = new int[MOST_ATTRIBUTES];
        /** An attribute's namespace; of one of xmlns -1 less the namespace that it declares. */
        final int[] attrSpace = new int[MOST_ATTRIBUTES];
        final int[] valueAt = new int[MOST_ATTRIBUTES];
        final int[] valueLength = new int[MOST_ATTRIBUTES];
        /** Values and texts in their order, in UTF-8: neither is ever longer than what tells it. */
        final int[] pool = new int[Archive.MOST_SIZE + 4];
        /** The element whose text a byte of the pool is, or NONE for a value's. */
        private final int[] owner = new int[Archive.MOST_SIZE + 4];
        /** The beginning of the text that was trimmed last. */
        final int[] brief = new int[BRIEF];
        private int[] bytes = new int[0];
        int elements = 0;
        int attrs = 0;
        int used = 0;

        Doc() {
        }

        void clear(int[] row) {
            bytes = row;
            elements = 0;
            attrs = 0;
            used = 0;
        }

        /** Begins an element; the parser has looked at the limit. */
        int open(int where) {
            int e = elements;
            place[e] = where;
            last[e] = e;
            attrFrom[e] = attrs;
            textFrom[e] = used;
            textTo[e] = used;
            elements++;
            return e;
        }

        void close(int e) {
            last[e] = elements - 1;
            textTo[e] = used;
        }

        /** Begins an attribute with an empty value; false if there is no room, which no document can need. */
        boolean addAttr(int at, int length) {
            if (attrs >= MOST_ATTRIBUTES) {
                return false;
            }
            attrAt[attrs] = at;
            attrLength[attrs] = length;
            attrSpace[attrs] = 0;
            valueAt[attrs] = used;
            valueLength[attrs] = 0;
            attrs++;
            return true;
        }

        void append(int c, int who) {
            if (used + 4 > pool.length) {
                return;
            }
            int width = Bytes.width(c);
            int rest = c;
            owner[used] = who;
            for (int i = width - 1; i > 0; i--) {
                pool[used + i] = rest & 63 | 128;
                owner[used + i] = who;
                rest >>= 6;
            }
            // The first byte's mark: as many ones as there are bytes.
            pool[used] = width == 1 ? rest : rest | 0xF0 << 4 - width & 0xFF;
            used += width;
        }

        /** The element behind this one and all that lies in it. */
        int behind(int e) {
            return Math.max(last[e], e) + 1;
        }

        int attrFrom(int e) {
            return attrFrom[e];
        }

        private int attrTo(int e) {
            return e + 1 < elements ? attrFrom[e + 1] : attrs;
        }

        boolean is(int e, int which, String word) {
            return space[e] == which && Bytes.is(bytes, nameAt[e], nameLength[e], word);
        }

        /** The element's attribute of no namespace with this name, or NONE. */
        int attr(int e, String word) {
            return attrIn(e, 0, word);
        }

        int attrIn(int e, int which, String word) {
            int to = attrTo(e);
            for (int a = attrFrom[e]; a < to; a++) {
                if (attrSpace[a] == which && Bytes.is(bytes, attrAt[a], attrLength[a], word)) {
                    return a;
                }
            }
            return NONE;
        }

        boolean valueIs(int a, String word) {
            return a != NONE && Bytes.is(pool, valueAt[a], valueLength[a], word);
        }

        boolean valueIsOneOf(int a, String words) {
            return a != NONE && Bytes.isOneOf(pool, valueAt[a], valueLength[a], words);
        }

        boolean isValue(int a, int from, int length) {
            return a != NONE && valueLength[a] == length && Bytes.same(pool, valueAt[a], pool, from, length);
        }

        boolean isEmpty(int a) {
            return a == NONE || valueLength[a] == 0;
        }

        /** Whether some word of the value, split by blanks, is among these words (or, not 'among', beside them). */
        boolean hasWord(int a, String words, boolean among) {
            if (a == NONE) {
                return false;
            }
            int to = valueAt[a] + valueLength[a];
            int at = Bytes.skipBlanks(pool, valueAt[a], to);
            while (at < to) {
                int stop = Bytes.wordEnd(pool, at, to);
                if (Bytes.isOneOf(pool, at, stop - at, words) == among) {
                    return true;
                }
                at = Bytes.skipBlanks(pool, stop, to);
            }
            return false;
        }

        /** The namespace that the element itself declares for a prefix (of length 0: the default one), or NONE. */
        int declared(int e, int prefixAt, int length) {
            int to = attrTo(e);
            for (int a = attrFrom[e]; a < to; a++) {
                if (attrSpace[a] < 0 && attrLength[a] == length
                        && Bytes.same(bytes, attrAt[a], bytes, prefixAt, length)) {
                    return -1 - attrSpace[a];
                }
            }
            return NONE;
        }

        /** A number for the namespace that the value of attribute a names, the same for the same one. */
        int spaceNamed(int a) {
            int from = valueAt[a];
            int length = valueLength[a];
            if (length == 0) {
                return 0;
            } else if (Bytes.is(pool, from, length, "http://www.w3.org/XML/1998/namespace")) {
                return XML;
            } else if (Bytes.is(pool, from, length, "urn:oasis:names:tc:opendocument:xmlns:container")) {
                return CONTAINER;
            } else if (Bytes.is(pool, from, length, "http://www.idpf.org/2007/opf")) {
                return OPF;
            } else if (Bytes.is(pool, from, length, "http://purl.org/dc/elements/1.1/")) {
                return DC;
            } else if (Bytes.is(pool, from, length, "http://www.w3.org/1999/xhtml")) {
                return XHTML;
            } else if (Bytes.is(pool, from, length, "http://www.idpf.org/2007/ops")) {
                return OPS;
            } else if (Bytes.is(pool, from, length, "http://www.w3.org/ns/SMIL")) {
                return SMIL;
            } else if (Bytes.is(pool, from, length, "http://www.w3.org/2001/04/xmlenc#")) {
                return ENC;
            }
            for (int b = 0; b < a; b++) {
                if (attrSpace[b] < 0 && valueLength[b] == length && Bytes.same(pool, valueAt[b], pool, from, length)) {
                    return -1 - attrSpace[b];
                }
            }
            return OTHER + a;
        }

        int textFrom(int e) {
            return textFrom[e];
        }

        int textTo(int e) {
            return textTo[e];
        }

        /** Whether a byte of the pool is text of this element alone. */
        boolean isTextOf(int at, int e) {
            return owner[at] == e;
        }

        boolean isText(int at) {
            return owner[at] != NONE;
        }

        /** How long the element's text is without blanks at both ends; its beginning is then in brief. */
        int trim(int e) {
            int length = 0;
            int inner = 0;
            for (int at = textFrom[e]; at < textTo[e]; at++) {
                if (owner[at] != e) {
                    continue;
                }
                boolean blank = Bytes.isBlank(pool[at]);
                if (blank && inner == 0) {
                    continue;
                }
                if (inner < BRIEF) {
                    brief[inner] = pool[at];
                }
                inner++;
                if (!blank) {
                    length = inner;
                }
            }
            return length;
        }
    }

    /** Reads an entry's bytes as XML into a document. */
    private static final class Parser {
        private static final int END = -1;
        private static final int BAD = -2;
        private static final int MOST_DEPTH = 20;
        private static final int MOST_ATTRIBUTES = 16;
        private static final int TOP = 0x110000;
        private static final int WRONG = 0;
        private static final int TEXT = 1;
        private static final int BLANK = 2;
        private static final int START = 3;
        private static final int CLOSE = 4;
        private static final int INSTRUCTION = 5;
        private static final int COMMENT = 6;
        private static final int CDATA = 7;
        private static final int DOCTYPE = 8;

        private final Report report;
        private final Archive archive;
        /** The chars, then END, or BAD where one is none; with each the byte and the place where it stands. */
        private final int[] chars = new int[Archive.MOST_SIZE + 1];
        private final int[] spots = new int[Archive.MOST_SIZE + 1];
        private final int[] places = new int[Archive.MOST_SIZE + 1];
        private final int[] open = new int[MOST_DEPTH];
        private final int[] openAt = new int[MOST_DEPTH];
        private final int[] openLength = new int[MOST_DEPTH];
        private final int[] prefixLength = new int[MOST_ATTRIBUTES];
        private Doc doc;
        private int stop = 0;
        private int at = 0;
        private int lessAt = 0;
        private int depth = 0;
        private boolean typed = false;
        private int fault = 0;
        private int faultPlace = 0;
        /** The name that was read last: where it begins, and the length of its prefix. */
        private int nameFrom = 0;
        private int prefix = 0;

        Parser(Report report, Archive archive, Doc doc) {
            this.report = report;
            this.archive = archive;
            this.doc = doc;
        }

        /** Whether the entry, which is read, could be parsed; what was wrong is told. */
        boolean parse(Doc into, int entry) {
            doc = into;
            doc.clear(archive.data);
            at = 0;
            depth = 0;
            typed = false;
            decode(archive.dataAt[entry], archive.dataAt[entry] + archive.sizeOf(entry));
            boolean right = !isDeclaration() || declaration();
            for (int round = 0; right && !isOver() && round <= Archive.MOST_SIZE; round++) {
                switch (kindHere()) {
                    case TEXT:
                        right = text();
                        break;
                    case BLANK:
                        at++;
                        break;
                    case START:
                        right = beginTag() && attributes() && finishTag();
                        break;
                    case CLOSE:
                        right = endTag();
                        break;
                    case INSTRUCTION:
                        right = instruction();
                        break;
                    case COMMENT:
                        right = comment();
                        break;
                    case CDATA:
                        right = cdata();
                        break;
                    case DOCTYPE:
                        right = doctype();
                        break;
                    default:
                        right = failHere();
                        break;
                }
            }
            if (!right) {
                report.add(fault, entry, faultPlace);
            }
            return right;
        }

        private void decode(int from, int to) {
            int[] row = archive.data;
            int spot = from + 2 < to && row[from] == 239 && row[from + 1] == 187 && row[from + 2] == 191 ? from + 3 : from;
            int line = 1;
            int column = 1;
            stop = 0;
            boolean right = true;
            while (right && spot < to && stop < Archive.MOST_SIZE) {
                int c = Bytes.decode(row, spot, to);
                right = isChar(c);
                chars[stop] = right ? c : BAD;
                spots[stop] = spot;
                places[stop] = Report.placeOf(line, column);
                if (right) {
                    stop++;
                    spot += Bytes.width(c);
                    boolean over = c == 10 || c == 13 && (spot >= to || row[spot] != 10);
                    line += over ? 1 : 0;
                    column = over ? 1 : column + 1;
                }
            }
            if (right) {
                chars[stop] = END;
                spots[stop] = spot;
                places[stop] = Report.placeOf(line, column);
            }
        }

        private static boolean isChar(int c) {
            return c == 9 || c == 10 || c == 13 || c >= 32 && c <= 55295 || c >= 57344 && c <= 65533
                    || c >= 65536 && c < TOP;
        }

        private static boolean isNameStart(int c) {
            return c >= 'A' && c <= 'Z' || c >= 'a' && c <= 'z' || c == '_' || c > 127;
        }

        private static boolean isNameChar(int c) {
            return isNameStart(c) || Bytes.isDigit(c) || c == '-' || c == '.';
        }

        private boolean fail(int code, int where) {
            fault = code;
            faultPlace = places[where];
            return false;
        }

        private boolean failHere() {
            return fail(Report.NOT_WELL_FORMED, at);
        }

        private boolean isOver() {
            return chars[at] == END && depth == 0 && doc.elements > 0;
        }

        /** What begins here; the place moves on to the sign that told it. */
        private int kindHere() {
            int c = chars[at];
            if (c != '<') {
                return depth > 0 && c >= 0 ? TEXT : Bytes.isBlank(c) ? BLANK : WRONG;
            }
            lessAt = at;
            at++;
            c = chars[at];
            if (c == '?') {
                return INSTRUCTION;
            }
            if (c == '/' && depth > 0) {
                return CLOSE;
            }
            if (isNameStart(c) && (depth > 0 || doc.elements == 0)) {
                return START;
            }
            if (c != '!') {
                return WRONG;
            }
            at++;
            c = chars[at];
            if (c == '-') {
                return COMMENT;
            }
            if (c == '[' && depth > 0) {
                return CDATA;
            }
            return c == 'D' && doc.elements == 0 && !typed ? DOCTYPE : WRONG;
        }

        private boolean literal(String text) {
            for (int i = 0; i < text.length(); i++) {
                if (chars[at] != text.charAt(i)) {
                    return failHere();
                }
                at++;
            }
            return true;
        }

        /** Skips blanks: whether there were some. */
        private boolean blanks() {
            int from = at;
            at = Bytes.skipBlanks(chars, at, stop);
            return at > from;
        }

        private boolean isDeclaration() {
            return stop > 5 && Bytes.is(chars, 0, 5, "<?xml") && Bytes.isBlank(chars[5]);
        }

        private boolean declaration() {
            at = 5;
            blanks();
            if (!literal("version") || !equalsSign() || !quoted("1.0")) {
                return false;
            }
            if (blanks() && chars[at] == 'e') {
                if (!literal("encoding") || !equalsSign() || !quoted("utf-8")) {
                    return false;
                }
                blanks();
            }
            return literal("?>");
        }

        private boolean equalsSign() {
            blanks();
            boolean right = literal("=");
            blanks();
            return right;
        }

        private boolean quoted(String text) {
            int quote = chars[at];
            if (quote != '"' && quote != '\'') {
                return failHere();
            }
            at++;
            for (int i = 0; i < text.length(); i++) {
                if (Bytes.small(chars[at]) != text.charAt(i)) {
                    return failHere();
                }
                at++;
            }
            if (chars[at] != quote) {
                return failHere();
            }
            at++;
            return true;
        }

        private boolean doctype() {
            typed = true;
            if (!literal("DOCTYPE")) {
                return false;
            }
            if (!blanks()) {
                return failHere();
            }
            if (!simpleName()) {
                return false;
            }
            blanks();
            return literal(">");
        }

        private boolean comment() {
            if (!literal("--")) {
                return false;
            }
            while (at < stop) {
                if (chars[at] != '-') {
                    at++;
                    continue;
                }
                at++;
                if (chars[at] == '-') {
                    at++;
                    return literal(">");
                }
            }
            return failHere();
        }

        private boolean instruction() {
            at++;
            int from = at;
            if (!simpleName()) {
                return false;
            }
            if (at - from == 3 && Bytes.small(chars[from]) == 'x' && Bytes.small(chars[from + 1]) == 'm'
                    && Bytes.small(chars[from + 2]) == 'l') {
                return failHere();
            }
            if (!Bytes.isBlank(chars[at])) {
                return literal("?>");
            }
            while (at < stop) {
                boolean mark = chars[at] == '?';
                at++;
                if (mark && chars[at] == '>') {
                    at++;
                    return true;
                }
            }
            return failHere();
        }

        private boolean cdata() {
            if (!literal("[CDATA[")) {
                return false;
            }
            int who = open[depth - 1];
            int brackets = 0;
            for (int round = at; round < stop && at < stop; round++) {
                int c = chars[at];
                if (c == '>' && brackets >= 2) {
                    // The two brackets ahead of it were no text after all.
                    doc.used -= 2;
                    at++;
                    return true;
                }
                brackets = c == ']' ? brackets + 1 : 0;
                takeText(c, who);
            }
            return failHere();
        }

        private boolean text() {
            int who = open[depth - 1];
            int brackets = 0;
            for (int round = at; round < stop && at < stop && chars[at] != '<'; round++) {
                int c = chars[at];
                if (c == '&') {
                    if (!reference(who)) {
                        return false;
                    }
                    brackets = 0;
                    continue;
                }
                if (c == '>' && brackets >= 2) {
                    return failHere();
                }
                brackets = c == ']' ? brackets + 1 : 0;
                takeText(c, who);
            }
            return true;
        }

        /** Takes a char of a text; of 13 10 only the 10 comes in. */
        private void takeText(int c, int who) {
            at++;
            if (c != 13) {
                doc.append(c, who);
            } else if (chars[at] != 10) {
                doc.append(10, who);
            }
        }

        /** Takes a reference into a value or text. */
        private boolean reference(int who) {
            int from = at;
            at++;
            int c;
            if (chars[at] == '#') {
                at++;
                c = numbered();
            } else {
                c = named();
            }
            if (c == NONE) {
                return fail(Report.NOT_WELL_FORMED, from);
            }
            doc.append(c, who);
            return true;
        }

        private int named() {
            int from = at;
            int limit = Math.min(from + 5, stop);
            while (at < limit && chars[at] != ';') {
                at++;
            }
            if (chars[at] != ';') {
                return NONE;
            }
            int length = at - from;
            at++;
            if (Bytes.is(chars, from, length, "amp")) {
                return '&';
            } else if (Bytes.is(chars, from, length, "lt")) {
                return '<';
            } else if (Bytes.is(chars, from, length, "gt")) {
                return '>';
            } else if (Bytes.is(chars, from, length, "quot")) {
                return '"';
            }
            return Bytes.is(chars, from, length, "apos") ? '\'' : NONE;
        }

        private int numbered() {
            int base = chars[at] == 'x' ? 16 : 10;
            if (base == 16) {
                at++;
            }
            int from = at;
            int number = 0;
            while (at < stop && Bytes.hex(chars[at]) != NONE && Bytes.hex(chars[at]) < base) {
                number = Math.min(number * base + Bytes.hex(chars[at]), TOP);
                at++;
            }
            if (at == from || chars[at] != ';' || !isChar(number)) {
                return NONE;
            }
            at++;
            return number;
        }

        private boolean simpleName() {
            if (!isNameStart(chars[at])) {
                return failHere();
            }
            while (at < stop && isNameChar(chars[at])) {
                at++;
            }
            return true;
        }

        /** Reads a name with or without a prefix. */
        private boolean qualifiedName() {
            nameFrom = at;
            prefix = 0;
            if (!simpleName()) {
                return false;
            }
            if (chars[at] != ':') {
                return true;
            }
            prefix = spots[at] - spots[nameFrom];
            at++;
            return simpleName();
        }

        private boolean beginTag() {
            if (depth >= MOST_DEPTH || doc.elements >= Doc.MOST_ELEMENTS) {
                return fail(Report.TOO_MUCH, lessAt);
            }
            int e = doc.open(places[lessAt]);
            if (!qualifiedName()) {
                return false;
            }
            int skip = prefix == 0 ? 0 : prefix + 1;
            open[depth] = e;
            openAt[depth] = spots[nameFrom];
            openLength[depth] = spots[at] - spots[nameFrom];
            doc.nameAt[e] = openAt[depth] + skip;
            doc.nameLength[e] = openLength[depth] - skip;
            return true;
        }

        /** The element's beginning is over up to its > or / . */
        private boolean finishTag() {
            int e = open[depth];
            if (!namespaces(e, openAt[depth], Math.max(openLength[depth] - doc.nameLength[e] - 1, 0))) {
                return fail(Report.NOT_WELL_FORMED, lessAt);
            }
            if (chars[at] == '/') {
                at++;
                return literal(">");
            }
            at++;
            depth++;
            return true;
        }

        /** Reads attributes up to the sign that ends an element's beginning. */
        private boolean attributes() {
            for (int n = 0; n <= MOST_ATTRIBUTES; n++) {
                boolean apart = blanks();
                int c = chars[at];
                if (c == '/' || c == '>') {
                    return true;
                }
                if (!apart || !isNameStart(c)) {
                    return failHere();
                }
                if (n == MOST_ATTRIBUTES) {
                    return fail(Report.TOO_MUCH, lessAt);
                }
                if (!qualifiedName()) {
                    return false;
                }
                int skip = prefix == 0 ? 0 : prefix + 1;
                prefixLength[n] = prefix;
                int from = spots[nameFrom] + skip;
                if (!doc.addAttr(from, spots[at] - from)) {
                    return fail(Report.TOO_MUCH, lessAt);
                }
                if (!equalsSign() || !value()) {
                    return false;
                }
            }
            return true;
        }

        private boolean value() {
            int quote = chars[at];
            if (quote != '"' && quote != '\'') {
                return failHere();
            }
            at++;
            for (int round = at; round < stop && at < stop && chars[at] != quote && chars[at] != '<'; round++) {
                int c = chars[at];
                if (c == '&') {
                    if (!reference(NONE)) {
                        return false;
                    }
                    continue;
                }
                at++;
                if (c == 13 && chars[at] == 10) {
                    at++;
                }
                doc.append(Bytes.isBlank(c) ? 32 : c, NONE);
            }
            if (chars[at] != quote) {
                return failHere();
            }
            at++;
            int a = doc.attrs - 1;
            doc.valueLength[a] = doc.used - doc.valueAt[a];
            return true;
        }

        /** Finds the namespaces of an element and its attributes: whether all are declared, and nothing twice. */
        private boolean namespaces(int e, int prefixAt, int length) {
            int from = doc.attrFrom(e);
            for (int a = from; a < doc.attrs; a++) {
                if (!declares(a, prefixLength[a - from])) {
                    return false;
                }
            }
            int found = spaceOf(e, prefixAt, length);
            if (found == NONE && length > 0) {
                return false;
            }
            doc.space[e] = Math.max(found, 0);
            for (int a = from; a < doc.attrs; a++) {
                int ahead = prefixLength[a - from];
                if (doc.attrSpace[a] < 0 || ahead == 0) {
                    continue;
                }
                doc.attrSpace[a] = Math.max(spaceOf(e, doc.attrAt[a] - ahead - 1, ahead), 0);
                if (doc.attrSpace[a] == 0) {
                    return false;
                }
            }
            return isNothingTwice(from);
        }

        /** Notes what an attribute of xmlns declares: false if it may not be declared. */
        private boolean declares(int a, int ahead) {
            int[] row = archive.data;
            int length = doc.attrLength[a];
            if (ahead == 0) {
                if (Bytes.is(row, doc.attrAt[a], length, "xmlns")) {
                    doc.attrLength[a] = 0;
                    doc.attrSpace[a] = -1 - doc.spaceNamed(a);
                }
                return true;
            }
            if (!Bytes.is(row, doc.attrAt[a] - ahead - 1, ahead, "xmlns")) {
                return true;
            }
            int named = doc.spaceNamed(a);
            boolean xml = Bytes.is(row, doc.attrAt[a], length, "xml");
            doc.attrSpace[a] = -1 - named;
            return named != 0 && (!xml || named == Doc.XML) && !Bytes.is(row, doc.attrAt[a], length, "xmlns");
        }

        /** The namespace of a prefix (of length 0: the default one) in element e, or NONE. */
        private int spaceOf(int e, int prefixAt, int length) {
            if (Bytes.is(archive.data, prefixAt, length, "xml")) {
                return Doc.XML;
            }
            int found = doc.declared(e, prefixAt, length);
            for (int d = depth - 1; d >= 0 && found == NONE; d--) {
                found = doc.declared(open[d], prefixAt, length);
            }
            return found;
        }

        private boolean isNothingTwice(int from) {
            for (int a = from; a < doc.attrs; a++) {
                for (int b = a + 1; b < doc.attrs; b++) {
                    boolean alike = doc.attrSpace[a] == doc.attrSpace[b]
                            || doc.attrSpace[a] < 0 && doc.attrSpace[b] < 0;
                    if (alike && doc.attrLength[a] == doc.attrLength[b]
                            && Bytes.same(archive.data, doc.attrAt[a], archive.data, doc.attrAt[b], doc.attrLength[a])) {
                        return false;
                    }
                }
            }
            return true;
        }

        private boolean endTag() {
            at++;
            if (!qualifiedName()) {
                return false;
            }
            int top = depth - 1;
            int fullAt = spots[nameFrom];
            int length = spots[at] - fullAt;
            if (length != openLength[top]
                    || !Bytes.same(archive.data, fullAt, archive.data, openAt[top], length)) {
                return fail(Report.NOT_WELL_FORMED, lessAt);
            }
            blanks();
            if (!literal(">")) {
                return false;
            }
            doc.close(open[top]);
            depth = top;
            return true;
        }
    }

    /** Finds the entry that a value tells. */
    private static final class Paths {
        static final int MISSING = NONE;
        static final int BAD = -2;

        private final Archive archive;
        final int[] path = new int[Archive.MOST_SIZE + 200];
        int length = 0;
        private int parts = 0;

        Paths(Archive archive) {
            this.archive = archive;
        }

        /** The entry at the path that a value in the entry 'own' tells, or MISSING, or BAD; the path stays here. */
        int resolve(Doc doc, int attr, int own, boolean fromNone) {
            int[] row = doc.pool;
            int from = doc.valueAt[attr];
            int to = from + doc.valueLength[attr];
            length = 0;
            parts = 0;
            if (isBad(row, from, to)) {
                return BAD;
            }
            int stop = from;
            while (stop < to && row[stop] != '#') {
                stop++;
            }
            if (stop == from) {
                return own;
            }
            if (!fromNone && own != archive.container) {
                beginAt(own);
            }
            int at = from;
            while (at <= stop) {
                int next = at;
                while (next < stop && row[next] != '/') {
                    next++;
                }
                if (!addPart(row, at, next, next == stop)) {
                    return BAD;
                }
                at = next + 1;
            }
            return parts == 0 ? BAD : archive.find(path, 0, length);
        }

        private static boolean isBad(int[] row, int from, int to) {
            if (from >= to || row[from] == '/' || hasScheme(row, from, to)) {
                return true;
            }
            for (int i = from; i < to; i++) {
                int c = row[i];
                if (c < 33 || c == 127 || c == '?') {
                    return true;
                }
                if (c == '%' && (i + 2 >= to || Bytes.hex(row[i + 1]) < 0 || Bytes.hex(row[i + 2]) < 0)) {
                    return true;
                }
            }
            return false;
        }

        /** Whether there is a : ahead of any / ? and # . */
        static boolean hasScheme(int[] row, int from, int to) {
            for (int i = from; i < to; i++) {
                int c = row[i];
                if (c == ':') {
                    return true;
                }
                if (c == '/' || c == '?' || c == '#') {
                    return false;
                }
            }
            return false;
        }

        private void beginAt(int own) {
            int from = archive.nameAt[own];
            for (int i = 0; i < archive.nameLength[own]; i++) {
                path[i] = archive.byteAt(from + i);
                if (path[i] == '/') {
                    length = i;
                    parts++;
                }
            }
        }

        /** Adds one part, with its %s turned into bytes; false if the path is bad by it. */
        private boolean addPart(int[] row, int from, int to, boolean isLast) {
            int start = parts > 0 ? length + 1 : 0;
            int stop = start;
            int at = from;
            while (at < to && stop < path.length) {
                boolean told = row[at] == '%' && at + 2 < to;
                int c = told ? Bytes.hex(row[at + 1]) * 16 + Bytes.hex(row[at + 2]) : row[at];
                if (c == '/') {
                    return false;
                }
                path[stop] = c;
                stop++;
                at += told ? 3 : 1;
            }
            int size = stop - start;
            if (size == 0 && isLast || Bytes.is(path, start, size, ".")) {
                return true;
            }
            if (Bytes.is(path, start, size, "..")) {
                return dropPart();
            }
            if (parts > 0) {
                path[length] = '/';
            }
            length = stop;
            parts++;
            return true;
        }

        private boolean dropPart() {
            if (parts == 0) {
                return false;
            }
            parts--;
            int at = length - 1;
            while (at > 0 && path[at] != '/') {
                at--;
            }
            length = parts == 0 ? 0 : at;
            return true;
        }
    }

    /** The package's root and metadata. */
    private static final class Metadata {
        private static final String PROPERTIES = "alternate-script authority belongs-to-collection collection-type display-seq file-as group-position identifier-type meta-auth role source-of term title-type ";
        private static final String PREFIXES = "a11y dcterms marc media onix rendition schema xsd ";
        private static final String MOMENT = "dddd-dd-ddTdd:dd:ddZ";
        private static final int RIGHT = 0;
        private static final int WRONG = 1;
        private static final int FOUND = 2;
        private static final int SLACK = 1000;

        private final Report report;
        private final Doc doc;
        private final Manifest manifest;
        private final Overlays overlays;
        private final int[] ids = new int[Doc.MOST_ELEMENTS];
        /** The element that a meta refines, or NONE. */
        private final int[] refined = new int[Doc.MOST_ELEMENTS];
        private int entry = NONE;
        private int metadataAt = 0;
        int manifestAt = 0;
        int spineAt = 0;
        int identifier = NONE;

        Metadata(Report report, Doc doc, Manifest manifest, Overlays overlays) {
            this.report = report;
            this.doc = doc;
            this.manifest = manifest;
            this.overlays = overlays;
        }

        /** Whether the package's root and its parts are such that the rest can be looked at. */
        boolean open(int pack) {
            entry = pack;
            identifier = NONE;
            if (!doc.is(0, Doc.OPF, "package") || !doc.valueIs(doc.attr(0, "version"), "3.0")) {
                report.add(Report.PACKAGE_ROOT, entry, doc.place[0]);
                return false;
            }
            if (!findParts()) {
                report.add(Report.PACKAGE_PARTS, entry, doc.place[0]);
                return false;
            }
            return true;
        }

        private boolean findParts() {
            int seen = 0;
            for (int e = 1; e < doc.elements; e = doc.behind(e)) {
                if (doc.space[e] != Doc.OPF) {
                    continue;
                }
                int which = doc.is(e, Doc.OPF, "metadata") ? 0 : doc.is(e, Doc.OPF, "manifest") ? 1
                        : doc.is(e, Doc.OPF, "spine") ? 2 : NONE;
                if (seen < 3 ? which != seen : which != NONE) {
                    return false;
                }
                if (which == 0) {
                    metadataAt = e;
                } else if (which == 1) {
                    manifestAt = e;
                } else if (which == 2) {
                    spineAt = e;
                }
                seen++;
            }
            return seen >= 3;
        }

        void look() {
            lookAtIds();
            lookAtIdentifier();
            lookForText("title", Report.NO_TITLE);
            lookForText("language", Report.NO_LANGUAGE);
            lookForText("identifier", Report.NO_NUMBER);
            if (!isModifiedRight()) {
                report.add(Report.MODIFIED, entry, doc.place[metadataAt]);
            }
            if (scanPrefixes(0, 0) == WRONG) {
                report.add(Report.PREFIX, entry, doc.place[0]);
            }
            lookAtMetas();
        }

        private void lookAtIds() {
            for (int e = 0; e < doc.elements; e++) {
                int id = doc.attr(e, "id");
                ids[e] = id;
                if (id != NONE && withId(doc.valueAt[id], doc.valueLength[id]) < e) {
                    report.add(Report.ID_AGAIN, entry, doc.place[e]);
                }
            }
        }

        /** The first element with this id, or NONE; while the ids are gathered one is always found. */
        private int withId(int from, int length) {
            for (int e = 0; e < doc.elements; e++) {
                if (doc.isValue(ids[e], from, length)) {
                    return e;
                }
            }
            return NONE;
        }

        private void lookAtIdentifier() {
            int unique = doc.attr(0, "unique-identifier");
            for (int e = metadataAt + 1; e <= doc.last[metadataAt] && identifier == NONE; e = doc.behind(e)) {
                if (unique != NONE && doc.is(e, Doc.DC, "identifier")
                        && doc.isValue(ids[e], doc.valueAt[unique], doc.valueLength[unique])) {
                    identifier = e;
                }
            }
            if (identifier == NONE) {
                report.add(Report.NO_IDENTIFIER, entry, doc.place[0]);
            }
        }

        private void lookForText(String word, int code) {
            boolean found = false;
            for (int e = metadataAt + 1; e <= doc.last[metadataAt]; e = doc.behind(e)) {
                found = found || doc.is(e, Doc.DC, word) && doc.trim(e) > 0;
            }
            if (!found) {
                report.add(code, entry, doc.place[metadataAt]);
            }
        }

        private boolean isModifiedRight() {
            int found = 0;
            boolean right = false;
            for (int e = metadataAt + 1; e <= doc.last[metadataAt]; e = doc.behind(e)) {
                if (doc.is(e, Doc.OPF, "meta") && doc.valueIs(doc.attr(e, "property"), "dcterms:modified")
                        && doc.attr(e, "refines") == NONE) {
                    found++;
                    right = isMoment(doc.brief, doc.trim(e));
                }
            }
            return found == 1 && right;
        }

        private static boolean isMoment(int[] row, int length) {
            if (length != MOMENT.length()) {
                return false;
            }
            for (int i = 0; i < length; i++) {
                char due = MOMENT.charAt(i);
                if (due == 'd' ? !Bytes.isDigit(row[i]) : row[i] != due) {
                    return false;
                }
            }
            int year = twoDigits(row, 0) * 100 + twoDigits(row, 2);
            int day = twoDigits(row, 8);
            return day >= 1 && day <= daysOf(year, twoDigits(row, 5))
                    && twoDigits(row, 11) <= 23 && twoDigits(row, 14) <= 59 && twoDigits(row, 17) <= 59;
        }

        private static int twoDigits(int[] row, int at) {
            return (row[at] - '0') * 10 + row[at + 1] - '0';
        }

        /** How many days the month has: 0 for one that there isn't. */
        private static int daysOf(int year, int month) {
            switch (month) {
                case 2:
                    return year % 4 == 0 && (year % 100 != 0 || year % 400 == 0) ? 29 : 28;
                case 4:
                case 6:
                case 9:
                case 11:
                    return 30;
                default:
                    return month >= 1 && month <= 12 ? 31 : 0;
            }
        }

        /** Goes through the root's prefixes: FOUND if one has this name, else whether all of them are RIGHT. */
        private int scanPrefixes(int nameAt, int nameLength) {
            int attr = doc.attr(0, "prefix");
            if (attr == NONE) {
                return RIGHT;
            }
            int[] row = doc.pool;
            int to = doc.valueAt[attr] + doc.valueLength[attr];
            int at = Bytes.skipBlanks(row, doc.valueAt[attr], to);
            while (at < to) {
                int stop = Bytes.wordEnd(row, at, to);
                if (!isPrefix(row, at, stop - 1)) {
                    return WRONG;
                }
                if (stop - 1 - at == nameLength && Bytes.same(row, at, row, nameAt, nameLength)) {
                    return FOUND;
                }
                int second = Bytes.skipBlanks(row, stop, to);
                if (second == to) {
                    return WRONG;
                }
                at = Bytes.skipBlanks(row, Bytes.wordEnd(row, second, to), to);
            }
            return RIGHT;
        }

        /** Whether a name stands up to 'colon', and a : there. */
        private static boolean isPrefix(int[] row, int from, int colon) {
            if (colon <= from || row[colon] != ':' || !Bytes.isLetter(row[from]) && row[from] != '_') {
                return false;
            }
            for (int i = from; i < colon; i++) {
                int c = row[i];
                if (!Bytes.isLetter(c) && !Bytes.isDigit(c) && c != '_' && c != '-' && c != '.') {
                    return false;
                }
            }
            return true;
        }

        private boolean isMeta(int e) {
            return doc.is(e, Doc.OPF, "meta") && doc.attr(e, "name") == NONE;
        }

        private void lookAtMetas() {
            Arrays.fill(refined, NONE);
            for (int e = metadataAt + 1; e <= doc.last[metadataAt]; e = doc.behind(e)) {
                if (!isMeta(e)) {
                    continue;
                }
                int property = doc.attr(e, "property");
                if (doc.isEmpty(property) || doc.trim(e) == 0) {
                    report.add(Report.META_EMPTY, entry, doc.place[e]);
                }
                if (!doc.isEmpty(property) && !isProperty(property)) {
                    report.add(Report.META_PROPERTY, entry, doc.place[e]);
                }
                int refines = doc.attr(e, "refines");
                refined[e] = targetOf(refines);
                if (refines != NONE && refined[e] == NONE) {
                    report.add(Report.META_REFINES, entry, doc.place[e]);
                }
            }
            for (int e = metadataAt + 1; e <= doc.last[metadataAt]; e = doc.behind(e)) {
                if (Manifest.comesBack(refined, e)) {
                    report.add(Report.META_CIRCLE, entry, doc.place[e]);
                }
            }
        }

        private boolean isProperty(int attr) {
            int[] row = doc.pool;
            int from = doc.valueAt[attr];
            int to = from + doc.valueLength[attr];
            int colon = from;
            while (colon < to && row[colon] != ':') {
                colon++;
            }
            if (colon == to) {
                return doc.valueIsOneOf(attr, PROPERTIES);
            }
            return colon + 1 < to && (Bytes.isOneOf(row, from, colon - from, PREFIXES)
                    || colon > from && scanPrefixes(from, colon - from) == FOUND);
        }

        private int targetOf(int refines) {
            if (doc.isEmpty(refines) || doc.pool[doc.valueAt[refines]] != '#') {
                return NONE;
            }
            return withId(doc.valueAt[refines] + 1, doc.valueLength[refines] - 1);
        }

        /** Compares the durations that are told with those of the overlays. */
        void lookAtDurations() {
            for (int e = metadataAt + 1; e <= doc.last[metadataAt]; e = doc.behind(e)) {
                if (!isMeta(e) || !doc.valueIs(doc.attr(e, "property"), "media:duration")) {
                    continue;
                }
                int length = doc.trim(e);
                long told = length > doc.brief.length ? NONE : Overlays.clock(doc.brief, 0, length);
                boolean ofAll = doc.attr(e, "refines") == NONE;
                int item = ofAll ? NONE : manifest.itemAt(refined[e]);
                boolean lost = !ofAll && (item == NONE || !manifest.isKind(item, Manifest.SMIL));
                long due = ofAll ? overlays.durationOfAll() : lost ? NONE : overlays.durationOf(item);
                if (told < 0 || lost || due >= 0 && Math.abs(told - due) > SLACK) {
                    report.add(ofAll ? Report.DURATION_OF_ALL : Report.DURATION_OF_ONE, entry, doc.place[e]);
                }
            }
        }
    }

    /** The package's items and their order. */
    private static final class Manifest {
        static final int XHTML = 1;
        static final int SVG = 2;
        static final int SMIL = 4;
        static final int PICTURE = 8;
        private static final int REFERRED = 16;
        private static final String PROPERTIES = "cover-image mathml nav remote-resources scripted svg switch ";
        private static final String PICTURES = "image/gif image/jpeg image/png image/svg+xml image/webp ";
        // Items that count are 38 bytes or more of 6000, and each may have the package's folder ahead of its own bytes.
        private static final int MOST_PATHS = 22000;

        private final Report report;
        private final Archive archive;
        private final Paths paths;
        private final Doc doc;
        private final int[] element = new int[Doc.MOST_ELEMENTS];
        private final int[] id = new int[Doc.MOST_ELEMENTS];
        /** The item's entry, or MISSING, or BAD for one without a path. */
        private final int[] entry = new int[Doc.MOST_ELEMENTS];
        private final int[] kind = new int[Doc.MOST_ELEMENTS];
        private final int[] fallback = new int[Doc.MOST_ELEMENTS];
        /** Paths of missing items, which have no entry to be known by. */
        private final int[] lostAt = new int[Doc.MOST_ELEMENTS];
        private final int[] lostLength = new int[Doc.MOST_ELEMENTS];
        private final int[] lost = new int[MOST_PATHS];
        private int lostUsed = 0;
        /** The first item of each entry, or NONE. */
        private final int[] itemOf = new int[Archive.MOST_ENTRIES];
        private final boolean[] inSpine = new boolean[Archive.MOST_ENTRIES];
        final int[] reading = new int[Doc.MOST_ELEMENTS];
        int orderCount = 0;
        int items = 0;
        private int navigation = NONE;
        private int pack = NONE;

        Manifest(Report report, Archive archive, Paths paths, Doc doc) {
            this.report = report;
            this.archive = archive;
            this.paths = paths;
            this.doc = doc;
        }

        void clear() {
            items = 0;
            orderCount = 0;
            navigation = NONE;
        }

        void look(int packEntry, int manifestAt, int spineAt) {
            pack = packEntry;
            lostUsed = 0;
            Arrays.fill(itemOf, NONE);
            for (int i = 0; i < Archive.MOST_ENTRIES; i++) {
                inSpine[i] = false;
            }
            collect(manifestAt);
            for (int i = 0; i < items; i++) {
                locate(i);
            }
            for (int i = 0; i < items; i++) {
                link(i);
            }
            for (int i = 0; i < items; i++) {
                if (comesBack(fallback, i)) {
                    tell(Report.FALLBACK_CIRCLE, i);
                }
            }
            lookAtProperties(manifestAt);
            lookAtRefs(spineAt);
            lookForStrays();
        }

        private void tell(int code, int item) {
            report.add(code, pack, doc.place[element[item]]);
        }

        private void collect(int manifestAt) {
            for (int e = manifestAt + 1; e <= doc.last[manifestAt]; e = doc.behind(e)) {
                if (!doc.is(e, Doc.OPF, "item")) {
                    continue;
                }
                int type = doc.attr(e, "media-type");
                if (doc.isEmpty(doc.attr(e, "id")) || doc.isEmpty(doc.attr(e, "href")) || doc.isEmpty(type)) {
                    report.add(Report.ITEM_LACKS, pack, doc.place[e]);
                    continue;
                }
                element[items] = e;
                id[items] = doc.attr(e, "id");
                kind[items] = kindOf(type);
                items++;
            }
        }

        private int kindOf(int type) {
            int known = doc.valueIs(type, "application/xhtml+xml") ? XHTML
                    : doc.valueIs(type, "image/svg+xml") ? SVG
                    : doc.valueIs(type, "application/smil+xml") ? SMIL : 0;
            return doc.valueIsOneOf(type, PICTURES) ? known | PICTURE : known;
        }

        private void locate(int i) {
            int href = doc.attr(element[i], "href");
            int from = doc.valueAt[href];
            boolean marked = false;
            for (int at = from; at < from + doc.valueLength[href]; at++) {
                marked = marked || doc.pool[at] == '#';
            }
            int found = marked ? Paths.BAD : paths.resolve(doc, href, pack, false);
            if (found == pack) {
                found = Paths.BAD;
            }
            entry[i] = found;
            if (found == Paths.BAD) {
                tell(Report.ITEM_PATH, i);
            } else if (found == Paths.MISSING) {
                tell(Report.ITEM_MISSING, i);
                if (isLostAgain(i)) {
                    tell(Report.ITEM_AGAIN, i);
                }
            } else if (itemOf[found] == NONE) {
                itemOf[found] = i;
            } else {
                tell(Report.ITEM_AGAIN, i);
            }
        }

        /** Whether a missing item ahead has the path that was found last; it is kept for those behind. */
        private boolean isLostAgain(int i) {
            int length = Math.min(paths.length, MOST_PATHS - lostUsed);
            System.arraycopy(paths.path, 0, lost, lostUsed, length);
            lostAt[i] = lostUsed;
            lostLength[i] = length;
            lostUsed += length;
            for (int j = 0; j < i; j++) {
                if (entry[j] == Paths.MISSING && lostLength[j] == length
                        && Bytes.same(lost, lostAt[j], lost, lostAt[i], length)) {
                    return true;
                }
            }
            return false;
        }

        /** The first item whose id is this attribute's value, or NONE. */
        private int withId(int attr) {
            for (int i = 0; i < items; i++) {
                if (doc.isValue(id[i], doc.valueAt[attr], doc.valueLength[attr])) {
                    return i;
                }
            }
            return NONE;
        }

        private void link(int i) {
            int attr = doc.attr(element[i], "fallback");
            fallback[i] = attr == NONE ? NONE : withId(attr);
            if (attr != NONE && fallback[i] == NONE) {
                tell(Report.FALLBACK_LOST, i);
            }
            attr = doc.attr(element[i], "media-overlay");
            int overlay = attr == NONE ? NONE : withId(attr);
            if (attr != NONE && (overlay == NONE || !isKind(overlay, SMIL))) {
                tell(Report.OVERLAY_LOST, i);
            }
        }

        /** Whether one comes back to the first by going on from each to the one that its row tells, or NONE. */
        static boolean comesBack(int[] row, int first) {
            int next = row[first];
            for (int n = 0; n < row.length && next != NONE; n++) {
                if (next == first) {
                    return true;
                }
                next = row[next];
            }
            return false;
        }

        /** Whether the item, or one to which one comes from it by fallbacks, is of one of these kinds. */
        boolean leadsTo(int i, int kinds) {
            int next = i;
            for (int n = 0; n <= items && next != NONE; n++) {
                if (isKind(next, kinds)) {
                    return true;
                }
                next = fallback[next];
            }
            return false;
        }

        private void lookAtProperties(int manifestAt) {
            int covers = 0;
            int navs = 0;
            for (int i = 0; i < items; i++) {
                int words = doc.attr(element[i], "properties");
                if (doc.hasWord(words, PROPERTIES, false)) {
                    tell(Report.PROPERTY, i);
                }
                if (doc.hasWord(words, "cover-image ", true)) {
                    covers++;
                    int type = doc.attr(element[i], "media-type");
                    if (doc.valueLength[type] < 7
                            || !Bytes.begins(doc.pool, doc.valueAt[type], doc.valueLength[type], "image/")) {
                        tell(Report.COVER_TYPE, i);
                    }
                }
                if (doc.hasWord(words, "nav ", true)) {
                    navs++;
                    navigation = navs == 1 ? i : navigation;
                    if (!isKind(i, XHTML)) {
                        tell(Report.NAV_TYPE, i);
                    }
                }
            }
            if (covers > 1) {
                report.add(Report.COVER_COUNT, pack, doc.place[manifestAt]);
            }
            if (navs != 1) {
                report.add(Report.NAV_COUNT, pack, doc.place[manifestAt]);
            }
        }

        private void lookAtRefs(int spineAt) {
            boolean linear = false;
            for (int e = spineAt + 1; e <= doc.last[spineAt]; e = doc.behind(e)) {
                if (!doc.is(e, Doc.OPF, "itemref")) {
                    continue;
                }
                boolean aside = doc.valueIs(doc.attr(e, "linear"), "no");
                linear = linear || !aside;
                lookAtRef(e, aside);
            }
            if (!linear) {
                report.add(Report.NOTHING_LINEAR, pack, doc.place[spineAt]);
            }
        }

        private void lookAtRef(int e, boolean aside) {
            int attr = doc.attr(e, "idref");
            int item = attr == NONE ? NONE : withId(attr);
            if (item == NONE) {
                report.add(Report.REF_LOST, pack, doc.place[e]);
                return;
            }
            // Two refs with the same idref are just those that come to the same item.
            boolean again = isKind(item, REFERRED);
            kind[item] |= REFERRED;
            if (again) {
                report.add(Report.REF_AGAIN, pack, doc.place[e]);
            }
            if (!leadsTo(item, XHTML | SVG)) {
                report.add(Report.REF_TYPE, pack, doc.place[e]);
            }
            if (entry[item] < 0) {
                return;
            }
            inSpine[entry[item]] = true;
            if (!again && !aside) {
                reading[orderCount] = entry[item];
                orderCount++;
            }
        }

        private void lookForStrays() {
            for (int i = 0; i < archive.count; i++) {
                if (itemOf[i] == NONE && i != pack && archive.isStray(i)) {
                    report.add(Report.STRAY, i, 0);
                }
            }
        }

        boolean isKind(int i, int kinds) {
            return (kind[i] & kinds) != 0;
        }

        /** The item's entry, or below 0 if it has none. */
        int entryOf(int i) {
            return entry[i];
        }

        /** The first item of an entry, or NONE; also for what is no entry. */
        int itemOf(int found) {
            return found < 0 ? NONE : itemOf[found];
        }

        boolean isInSpine(int found) {
            return found >= 0 && inSpine[found];
        }

        /** The item that is this element of the package, or NONE. */
        int itemAt(int e) {
            for (int i = 0; i < items; i++) {
                if (element[i] == e) {
                    return i;
                }
            }
            return NONE;
        }

        /** The navigation's entry, or NONE. */
        int navigationEntry() {
            return navigation == NONE ? NONE : Math.max(entry[navigation], NONE);
        }

        boolean isNavigation(int found) {
            return navigation != NONE && isKind(navigation, XHTML) && entry[navigation] == found;
        }
    }

    /** The items' pages, the navigation among them, and the contents that it tells. */
    private static final class Content {
        private static final int TOC = 0;
        private static final int PAGES = 1;
        private static final int LANDMARKS = 2;
        private static final int LIST = 1;
        private static final int POINT = 2;

        private final Report report;
        private final Archive archive;
        private final Parser parser;
        private final Paths paths;
        private final Doc doc;
        private final Manifest manifest;
        private final boolean[] looked = new boolean[Archive.MOST_ENTRIES];
        /** What an element of the navigation is to be looked at as, and how many li lie around it. */
        private final int[] mark = new int[Doc.MOST_ELEMENTS];
        private final int[] around = new int[Doc.MOST_ELEMENTS];
        private final int[] firstNav = new int[3];
        final int[] level = new int[Doc.MOST_ELEMENTS];
        final int[] target = new int[Doc.MOST_ELEMENTS];
        final int[] labelAt = new int[Doc.MOST_ELEMENTS + 1];
        final int[] labels = new int[Archive.MOST_SIZE + 1];
        int count = 0;
        private int entry = NONE;

        Content(Report report, Archive archive, Parser parser, Paths paths, Doc doc, Manifest manifest) {
            this.report = report;
            this.archive = archive;
            this.parser = parser;
            this.paths = paths;
            this.doc = doc;
            this.manifest = manifest;
        }

        void clear() {
            count = 0;
            labelAt[0] = 0;
        }

        int labelLength(int i) {
            return labelAt[i + 1] - labelAt[i];
        }

        void look() {
            for (int i = 0; i < Archive.MOST_ENTRIES; i++) {
                looked[i] = false;
            }
            for (int i = 0; i < manifest.items; i++) {
                entry = manifest.entryOf(i);
                if (entry < 0 || !manifest.isKind(i, Manifest.XHTML) || looked[entry]) {
                    continue;
                }
                looked[entry] = true;
                if (!archive.isRead(entry) || !parser.parse(doc, entry)) {
                    continue;
                }
                boolean html = doc.is(0, Doc.XHTML, "html");
                if (!html) {
                    tell(Report.CONTENT_ROOT, 0);
                }
                for (int e = 0; e < doc.elements; e++) {
                    lookAtElement(e);
                }
                if (html && manifest.isNavigation(entry)) {
                    findNavs();
                    for (int role = TOC; role <= LANDMARKS; role++) {
                        walk(firstNav[role], role);
                    }
                }
            }
        }

        private void tell(int code, int e) {
            report.add(code, entry, doc.place[e]);
        }

        private void lookAtElement(int e) {
            if (doc.is(e, Doc.XHTML, "img")) {
                int src = doc.attr(e, "src");
                int item = src == NONE ? NONE : manifest.itemOf(paths.resolve(doc, src, entry, false));
                if (item == NONE) {
                    tell(Report.IMAGE, e);
                } else if (!manifest.leadsTo(item, Manifest.PICTURE)) {
                    tell(Report.PICTURE_TYPE, e);
                }
            } else if (doc.is(e, Doc.XHTML, "a")) {
                int href = doc.attr(e, "href");
                if (href == NONE
                        || Paths.hasScheme(doc.pool, doc.valueAt[href], doc.valueAt[href] + doc.valueLength[href])) {
                    return;
                }
                if (manifest.itemOf(paths.resolve(doc, href, entry, false)) == NONE) {
                    tell(Report.LINK, e);
                }
            }
        }

        /** Finds the first nav of each role, and tells of too many. */
        private void findNavs() {
            int tocs = 0;
            int pages = 0;
            int landmarks = 0;
            Arrays.fill(firstNav, NONE);
            for (int e = doc.elements - 1; e >= 0; e--) {
                if (!doc.is(e, Doc.XHTML, "nav")) {
                    continue;
                }
                int types = doc.attrIn(e, Doc.OPS, "type");
                if (doc.hasWord(types, "toc ", true)) {
                    tocs++;
                    firstNav[TOC] = e;
                }
                if (doc.hasWord(types, "page-list ", true)) {
                    pages++;
                    firstNav[PAGES] = e;
                }
                if (doc.hasWord(types, "landmarks ", true)) {
                    landmarks++;
                    firstNav[LANDMARKS] = e;
                }
            }
            if (tocs != 1) {
                tell(Report.TOC_COUNT, 0);
            }
            if (pages > 1 || landmarks > 1) {
                tell(Report.NAV_AGAIN, 0);
            }
        }

        /** Goes through a nav's lists in the document's order, which is that of the contents, too. */
        private void walk(int nav, int role) {
            if (nav == NONE) {
                return;
            }
            int list = nav + 1;
            if (list <= doc.last[nav] && isHeading(list)) {
                list = doc.behind(list);
            }
            if (list > doc.last[nav] || !doc.is(list, Doc.XHTML, "ol") || doc.last[list] != doc.last[nav]) {
                tell(Report.NAV_PARTS, nav);
                return;
            }
            Arrays.fill(mark, 0);
            mark[list] = LIST;
            around[list] = 0;
            for (int e = list; e <= doc.last[nav]; e++) {
                if (mark[e] == LIST) {
                    lookAtList(e);
                } else if (mark[e] == POINT) {
                    lookAtPoint(e, role);
                }
            }
        }

        private boolean isHeading(int e) {
            return doc.is(e, Doc.XHTML, "h1") || doc.is(e, Doc.XHTML, "h2") || doc.is(e, Doc.XHTML, "h3")
                    || doc.is(e, Doc.XHTML, "h4") || doc.is(e, Doc.XHTML, "h5") || doc.is(e, Doc.XHTML, "h6");
        }

        private void lookAtList(int list) {
            boolean right = doc.last[list] > list;
            for (int e = list + 1; e <= doc.last[list]; e = doc.behind(e)) {
                right = right && doc.is(e, Doc.XHTML, "li");
            }
            if (!right) {
                tell(Report.NAV_PARTS, list);
                return;
            }
            for (int e = list + 1; e <= doc.last[list]; e = doc.behind(e)) {
                mark[e] = POINT;
                around[e] = around[list];
            }
        }

        private void lookAtPoint(int point, int role) {
            int link = point + 1;
            boolean filled = link <= doc.last[point];
            boolean isLink = filled && doc.is(link, Doc.XHTML, "a");
            boolean isSpan = filled && doc.is(link, Doc.XHTML, "span");
            int list = filled ? doc.behind(link) : link;
            boolean more = list <= doc.last[point];
            boolean right = more ? doc.is(list, Doc.XHTML, "ol") && doc.last[list] == doc.last[point] : isLink;
            if (!right || !isLink && !isSpan) {
                tell(Report.NAV_PARTS, point);
                return;
            }
            if (more) {
                mark[list] = LIST;
                around[list] = around[point] + 1;
            }
            if (more && role != TOC) {
                tell(Report.NAV_FLAT, point);
            }
            if (isLink && role == LANDMARKS && doc.attrIn(link, Doc.OPS, "type") == NONE) {
                tell(Report.NAV_FLAT, link);
            }
            int found = isLink ? lookAtTarget(link) : NONE;
            int stop = takeLabel(link);
            if (stop == labelAt[count]) {
                tell(Report.NO_LABEL, link);
            }
            if (role == TOC) {
                level[count] = around[point];
                target[count] = found;
                count++;
                labelAt[count] = stop;
            }
        }

        /** The entry of a link's target, or NONE. */
        private int lookAtTarget(int link) {
            int href = doc.attr(link, "href");
            if (href == NONE) {
                tell(Report.NO_TARGET, link);
                return NONE;
            }
            int found = paths.resolve(doc, href, entry, false);
            if (!manifest.isInSpine(found)) {
                tell(Report.TARGET_OUTSIDE, link);
            }
            return Math.max(found, NONE);
        }

        /** Writes an element's label behind the labels that are kept: where it ends. */
        private int takeLabel(int e) {
            int from = labelAt[count];
            int stop = from;
            boolean gap = false;
            for (int at = doc.textFrom(e); at < doc.textTo(e); at++) {
                if (!doc.isText(at)) {
                    continue;
                }
                int c = doc.pool[at];
                if (Bytes.isBlank(c)) {
                    gap = stop > from;
                    continue;
                }
                if (stop + 2 > labels.length) {
                    return stop;
                }
                if (gap) {
                    labels[stop] = 32;
                    stop++;
                    gap = false;
                }
                labels[stop] = c;
                stop++;
            }
            return stop;
        }
    }

    /** The overlays and their clocks. */
    private static final class Overlays {
        private static final int GROUP = 1;
        private static final int PAIR = 2;
        private static final int WORDS = 3;
        private static final int SOUND = 4;
        private static final int MILLION = 1000000;

        private final Report report;
        private final Archive archive;
        private final Parser parser;
        private final Paths paths;
        private final Doc doc;
        private final Manifest manifest;
        private final boolean[] looked = new boolean[Archive.MOST_ENTRIES];
        /** How long each entry's overlay lasts, or NONE if that isn't known. */
        private final long[] duration = new long[Archive.MOST_ENTRIES];
        private final int[] mark = new int[Doc.MOST_ELEMENTS];
        private int entry = NONE;

        Overlays(Report report, Archive archive, Parser parser, Paths paths, Doc doc, Manifest manifest) {
            this.report = report;
            this.archive = archive;
            this.parser = parser;
            this.paths = paths;
            this.doc = doc;
            this.manifest = manifest;
        }

        void look() {
            for (int i = 0; i < Archive.MOST_ENTRIES; i++) {
                looked[i] = false;
            }
            Arrays.fill(duration, NONE);
            for (int i = 0; i < manifest.items; i++) {
                entry = manifest.entryOf(i);
                if (entry < 0 || !manifest.isKind(i, Manifest.SMIL) || looked[entry]) {
                    continue;
                }
                looked[entry] = true;
                if (archive.isRead(entry) && parser.parse(doc, entry)) {
                    duration[entry] = walk();
                }
            }
        }

        /** The duration of an item's overlay, or NONE if it isn't known. */
        long durationOf(int item) {
            int found = manifest.entryOf(item);
            return found < 0 ? NONE : duration[found];
        }

        long durationOfAll() {
            long sum = 0;
            for (int i = 0; i < manifest.items; i++) {
                if (!manifest.isKind(i, Manifest.SMIL)) {
                    continue;
                }
                if (durationOf(i) < 0) {
                    return NONE;
                }
                sum += durationOf(i);
            }
            return sum;
        }

        private void tell(int code, int e) {
            report.add(code, entry, doc.place[e]);
        }

        /** Goes through the document in its order: its duration, or NONE. */
        private long walk() {
            int body = findBody();
            if (body == NONE) {
                tell(Report.SMIL_ROOT, 0);
                return NONE;
            }
            Arrays.fill(mark, 0);
            mark[body] = GROUP;
            long sum = 0;
            boolean known = true;
            for (int e = body; e < doc.elements; e++) {
                if (mark[e] == GROUP) {
                    known = lookAtGroup(e) && known;
                } else if (mark[e] == PAIR) {
                    known = lookAtPair(e) && known;
                } else if (mark[e] != 0) {
                    lookAtSource(e);
                }
                if (mark[e] == SOUND) {
                    long length = lookAtClip(e);
                    known = known && length >= 0;
                    sum += length;
                }
            }
            return known ? sum : NONE;
        }

        private int findBody() {
            int body = 1;
            if (!doc.is(0, Doc.SMIL, "smil") || !doc.valueIs(doc.attr(0, "version"), "3.0")) {
                return NONE;
            }
            if (body < doc.elements && doc.is(body, Doc.SMIL, "head")) {
                body = doc.behind(body);
            }
            boolean right = body < doc.elements && doc.is(body, Doc.SMIL, "body") && doc.last[body] == doc.elements - 1;
            return right ? body : NONE;
        }

        private boolean lookAtGroup(int group) {
            boolean right = doc.last[group] > group;
            for (int e = group + 1; e <= doc.last[group]; e = doc.behind(e)) {
                right = right && (doc.is(e, Doc.SMIL, "seq") || doc.is(e, Doc.SMIL, "par"));
            }
            if (!right) {
                tell(Report.SMIL_PARTS, group);
                return false;
            }
            for (int e = group + 1; e <= doc.last[group]; e = doc.behind(e)) {
                mark[e] = doc.is(e, Doc.SMIL, "seq") ? GROUP : PAIR;
            }
            return true;
        }

        private boolean lookAtPair(int pair) {
            int texts = 0;
            int sounds = 0;
            boolean right = true;
            for (int e = pair + 1; e <= doc.last[pair]; e = doc.behind(e)) {
                boolean isText = doc.is(e, Doc.SMIL, "text");
                boolean isSound = doc.is(e, Doc.SMIL, "audio");
                texts += isText ? 1 : 0;
                sounds += isSound ? 1 : 0;
                right = right && (isText || isSound);
            }
            if (!right || texts != 1 || sounds > 1) {
                tell(Report.SMIL_PARTS, pair);
                return false;
            }
            for (int e = pair + 1; e <= doc.last[pair]; e = doc.behind(e)) {
                mark[e] = doc.is(e, Doc.SMIL, "text") ? WORDS : SOUND;
            }
            return true;
        }

        private void lookAtSource(int e) {
            int src = doc.attr(e, "src");
            if (src == NONE || manifest.itemOf(paths.resolve(doc, src, entry, false)) == NONE) {
                tell(Report.SMIL_SOURCE, e);
            }
        }

        /** How long an audio lasts, or NONE if that isn't known. */
        private long lookAtClip(int sound) {
            int begin = doc.attr(sound, "clipBegin");
            int stop = doc.attr(sound, "clipEnd");
            long from = 0;
            if (begin != NONE) {
                from = clock(doc.pool, doc.valueAt[begin], doc.valueAt[begin] + doc.valueLength[begin]);
            }
            long to = NONE;
            if (stop != NONE) {
                to = clock(doc.pool, doc.valueAt[stop], doc.valueAt[stop] + doc.valueLength[stop]);
            }
            if (from < 0 || stop != NONE && to <= from) {
                tell(Report.SMIL_CLIP, sound);
                return NONE;
            }
            return stop == NONE ? NONE : to - from;
        }

        /** A clock in thousandths of a second, or NONE if it is none. */
        static long clock(int[] row, int from, int to) {
            int at = Bytes.digitsEnd(row, from, to);
            if (at < to && row[at] == ':') {
                return fullClock(row, from, to);
            }
            if (at == from || at - from > 6) {
                return NONE;
            }
            long parts = (long) number(row, from, at) * MILLION;
            if (at < to && row[at] == '.') {
                int stop = Bytes.digitsEnd(row, at + 1, to);
                int part = millionths(row, at + 1, stop);
                if (part < 0) {
                    return NONE;
                }
                parts += part;
                at = stop;
            }
            int unit = unit(row, at, to - at);
            return unit == NONE ? NONE : parts * unit / MILLION;
        }

        private static int unit(int[] row, int at, int length) {
            if (length == 0 || Bytes.is(row, at, length, "s")) {
                return 1000;
            } else if (Bytes.is(row, at, length, "ms")) {
                return 1;
            } else if (Bytes.is(row, at, length, "min")) {
                return 60000;
            }
            return Bytes.is(row, at, length, "h") ? 3600000 : NONE;
        }

        /** A clock of hours (or without), minutes and seconds. */
        private static long fullClock(int[] row, int from, int to) {
            int firstEnd = Bytes.digitsEnd(row, from, to);
            int middle = firstEnd + 1;
            int stop = Bytes.digitsEnd(row, middle, to);
            boolean hours = stop < to && row[stop] == ':';
            int minutesAt = hours ? middle : from;
            int minutesEnd = hours ? stop : firstEnd;
            int secondsAt = hours ? stop + 1 : middle;
            int secondsEnd = hours ? Bytes.digitsEnd(row, secondsAt, to) : stop;
            if (minutesEnd - minutesAt != 2 || secondsEnd - secondsAt != 2
                    || hours && (firstEnd == from || firstEnd - from > 4)) {
                return NONE;
            }
            int minutes = number(row, minutesAt, minutesEnd);
            int seconds = number(row, secondsAt, secondsEnd);
            int part = secondsEnd == to ? 0 : row[secondsEnd] == '.' ? millionths(row, secondsEnd + 1, to) : NONE;
            if (minutes > 59 || seconds > 59 || part < 0) {
                return NONE;
            }
            int whole = hours ? number(row, from, firstEnd) : 0;
            return (whole * 3600L + minutes * 60 + seconds) * 1000 + part / 1000;
        }

        /** The number of these digits, which are six at most. */
        private static int number(int[] row, int from, int to) {
            int number = 0;
            for (int i = from; i < to; i++) {
                number = number * 10 + row[i] - '0';
            }
            return number;
        }

        /** What stands behind a point, or NONE if that isn't one to six digits. */
        private static int millionths(int[] row, int from, int to) {
            if (to <= from || to - from > 6 || Bytes.digitsEnd(row, from, to) != to) {
                return NONE;
            }
            int part = number(row, from, to);
            for (int n = to - from; n < 6; n++) {
                part *= 10;
            }
            return part;
        }
    }

    /** The obfuscated entries, and the key that turns them back. */
    private static final class Cipher {
        private static final int TURNED_BYTES = 1040;
        private static final int KEY_BYTES = 20;
        private static final int BLOCK_BYTES = 64;

        private final Report report;
        private final Archive archive;
        private final Parser parser;
        private final Paths paths;
        private final Doc doc;
        private final boolean[] turned = new boolean[Archive.MOST_ENTRIES];
        private final int[] key = new int[KEY_BYTES];
        private final int[] hash = new int[5];
        private final int[] words = new int[80];
        private int fill = 0;
        int count = 0;

        Cipher(Report report, Archive archive, Parser parser, Paths paths, Doc doc) {
            this.report = report;
            this.archive = archive;
            this.parser = parser;
            this.paths = paths;
            this.doc = doc;
        }

        void clear() {
            count = 0;
            for (int i = 0; i < Archive.MOST_ENTRIES; i++) {
                turned[i] = false;
            }
        }

        boolean isTurned(int i) {
            return count > 0 && turned[i];
        }

        /** What byte k of an entry is to be turned by. */
        int maskAt(int i, int k) {
            return isTurned(i) && k >= 0 && k < TURNED_BYTES ? key[k % KEY_BYTES] : 0;
        }

        /** Looks at the encryption, and marks what it tells: whether there is something. */
        boolean look() {
            int at = archive.findText("META-INF/encryption.xml");
            if (at == NONE || !archive.isRead(at) || !parser.parse(doc, at)) {
                return false;
            }
            if (!doc.is(0, Doc.CONTAINER, "encryption")) {
                report.add(Report.ENCRYPTION_ROOT, at, doc.place[0]);
                return false;
            }
            boolean some = false;
            for (int e = 1; e < doc.elements; e = doc.behind(e)) {
                if (!doc.is(e, Doc.ENC, "EncryptedData")) {
                    continue;
                }
                int method = firstIn(e, "EncryptionMethod");
                if (method == NONE || !doc.valueIs(doc.attr(method, "Algorithm"), "http://www.idpf.org/2008/embedding")) {
                    report.add(Report.ENCRYPTION_METHOD, at, doc.place[e]);
                    continue;
                }
                int found = lookAtReference(e, at);
                if (found < 0) {
                    report.add(Report.CIPHER_REFERENCE, at, doc.place[e]);
                } else {
                    turned[found] = true;
                    some = true;
                }
            }
            return some;
        }

        private int lookAtReference(int e, int own) {
            int data = firstIn(e, "CipherData");
            int reference = data == NONE ? NONE : firstIn(data, "CipherReference");
            int uri = reference == NONE ? NONE : doc.attr(reference, "URI");
            return uri == NONE ? NONE : paths.resolve(doc, uri, own, true);
        }

        private int firstIn(int outer, String word) {
            for (int e = outer + 1; e <= doc.last[outer]; e = doc.behind(e)) {
                if (doc.is(e, Doc.ENC, word)) {
                    return e;
                }
            }
            return NONE;
        }

        /** Makes the key of the package's identifier; without one nothing counts as turned. */
        void turn(Doc pack, int identifier) {
            if (identifier == NONE) {
                return;
            }
            for (int i = 0; i < archive.count; i++) {
                count += turned[i] ? 1 : 0;
            }
            begin();
            long bytes = 0;
            for (int at = pack.textFrom(identifier); at < pack.textTo(identifier); at++) {
                if (pack.isTextOf(at, identifier) && !Bytes.isBlank(pack.pool[at])) {
                    take(pack.pool[at]);
                    bytes++;
                }
            }
            finish(bytes * 8);
        }

        private void begin() {
            hash[0] = 0x67452301;
            hash[1] = 0xEFCDAB89;
            hash[2] = 0x98BADCFE;
            hash[3] = 0x10325476;
            hash[4] = 0xC3D2E1F0;
            fill = 0;
        }

        private void take(int c) {
            words[fill >> 2] = words[fill >> 2] << 8 | c;
            fill++;
            if (fill == BLOCK_BYTES) {
                mix();
                fill = 0;
            }
        }

        private void finish(long bitCount) {
            take(128);
            for (int n = 0; n < BLOCK_BYTES && fill != BLOCK_BYTES - 8; n++) {
                take(0);
            }
            for (int shift = 56; shift >= 0; shift -= 8) {
                take((int) (bitCount >>> shift) & 255);
            }
            for (int k = 0; k < KEY_BYTES; k++) {
                key[k] = hash[k >> 2] >>> 24 - (k & 3) * 8 & 255;
            }
        }

        private static int rotate(int word, int n) {
            return word << n | word >>> 32 - n;
        }

        private void mix() {
            for (int t = 16; t < 80; t++) {
                words[t] = rotate(words[t - 3] ^ words[t - 8] ^ words[t - 14] ^ words[t - 16], 1);
            }
            int a = hash[0];
            int b = hash[1];
            int c = hash[2];
            int d = hash[3];
            int e = hash[4];
            for (int t = 0; t < 80; t++) {
                int round = t / 20;
                int f = round == 0 ? b & c | ~b & d : round == 2 ? b & c | b & d | c & d : b ^ c ^ d;
                int constant = round == 0 ? 0x5A827999 : round == 1 ? 0x6ED9EBA1 : round == 2 ? 0x8F1BBCDC : 0xCA62C1D6;
                int next = rotate(a, 5) + f + e + constant + words[t];
                e = d;
                d = c;
                c = rotate(b, 30);
                b = a;
                a = next;
            }
            hash[0] += a;
            hash[1] += b;
            hash[2] += c;
            hash[3] += d;
            hash[4] += e;
        }
    }
}
