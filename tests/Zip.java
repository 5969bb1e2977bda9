import java.io.ByteArrayOutputStream;
import java.nio.charset.StandardCharsets;
import java.util.ArrayList;
import java.util.List;
import java.util.zip.CRC32;
import java.util.zip.Deflater;

/** Makes archives, right ones and, by changing an entry's fields, wrong ones. */
final class Zip {
    /** What stands in an entry's two headers: the fields are open so that a test can make them wrong. */
    static final class Entry {
        byte[] name;
        byte[] localName;
        byte[] raw;
        int flags = 0;
        /** Flags that stand in the local header beside those of the directory. */
        int localFlags = 0;
        int method;
        int localMethod;
        long sum;
        long localSum;
        long packed;
        long localPacked;
        long size;
        long localSize;
        long place = -1;
        int disk = 0;
        byte[] localExtra = new byte[0];
        byte[] extra = new byte[0];
        byte[] comment = new byte[0];
        int sign = 0x04034b50;
    }

    final List<Entry> entries = new ArrayList<>();
    byte[] lead = new byte[0];
    /** Bytes between the directory and the end. */
    byte[] gap = new byte[0];
    byte[] comment = new byte[0];
    byte[] behind = new byte[0];
    int countChange = 0;
    int secondCountChange = 0;
    int sizeChange = 0;
    int placeChange = 0;
    int firstDisk = 0;
    int secondDisk = 0;

    static byte[] latin(String text) {
        return text.getBytes(StandardCharsets.ISO_8859_1);
    }

    static byte[] utf8(String text) {
        return text.getBytes(StandardCharsets.UTF_8);
    }

    static byte[] deflate(byte[] data) {
        Deflater deflater = new Deflater(9, true);
        deflater.setInput(data);
        deflater.finish();
        byte[] out = new byte[data.length * 2 + 100];
        int n = deflater.deflate(out);
        deflater.end();
        return java.util.Arrays.copyOf(out, n);
    }

    Entry stored(String name, byte[] data) {
        return add(utf8(name), data, data, 0);
    }

    Entry deflated(String name, byte[] data) {
        return add(utf8(name), data, deflate(data), 8);
    }

    Entry add(byte[] name, byte[] data, byte[] raw, int method) {
        Entry e = new Entry();
        CRC32 crc = new CRC32();
        crc.update(data);
        e.name = name;
        e.localName = name;
        e.raw = raw;
        e.method = method;
        e.localMethod = method;
        e.sum = crc.getValue();
        e.localSum = e.sum;
        e.packed = raw.length;
        e.localPacked = raw.length;
        e.size = data.length;
        e.localSize = data.length;
        entries.add(e);
        return e;
    }

    byte[] bytes() {
        ByteArrayOutputStream out = new ByteArrayOutputStream();
        put(out, lead);
        List<Long> places = new ArrayList<>();
        for (Entry e : entries) {
            places.add(e.place >= 0 ? e.place : out.size());
            four(out, e.sign);
            two(out, 20);
            two(out, e.flags | e.localFlags);
            two(out, e.localMethod);
            four(out, 0);
            four(out, e.localSum);
            four(out, e.localPacked);
            four(out, e.localSize);
            two(out, e.localName.length);
            two(out, e.localExtra.length);
            put(out, e.localName);
            put(out, e.localExtra);
            put(out, e.raw);
        }
        int from = out.size();
        for (int i = 0; i < entries.size(); i++) {
            header(out, entries.get(i), places.get(i));
        }
        int size = out.size() - from;
        put(out, gap);
        four(out, 0x06054b50);
        two(out, firstDisk);
        two(out, secondDisk);
        two(out, entries.size() + countChange);
        two(out, entries.size() + countChange + secondCountChange);
        four(out, size + sizeChange);
        four(out, from + placeChange);
        two(out, comment.length);
        put(out, comment);
        put(out, behind);
        return out.toByteArray();
    }

    private static void header(ByteArrayOutputStream out, Entry e, long place) {
        four(out, 0x02014b50);
        two(out, 20);
        two(out, 20);
        two(out, e.flags);
        two(out, e.method);
        four(out, 0);
        four(out, e.sum);
        four(out, e.packed);
        four(out, e.size);
        two(out, e.name.length);
        two(out, e.extra.length);
        two(out, e.comment.length);
        two(out, e.disk);
        two(out, 0);
        four(out, 0);
        four(out, place);
        put(out, e.name);
        put(out, e.extra);
        put(out, e.comment);
    }

    private static void put(ByteArrayOutputStream out, byte[] row) {
        out.write(row, 0, row.length);
    }

    private static void two(ByteArrayOutputStream out, long number) {
        out.write((int) number & 255);
        out.write((int) (number >> 8) & 255);
    }

    private static void four(ByteArrayOutputStream out, long number) {
        two(out, number & 0xFFFF);
        two(out, number >> 16 & 0xFFFF);
    }
}
