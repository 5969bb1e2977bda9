import java.util.Arrays;
import java.util.Random;
import java.util.zip.DataFormatException;
import java.util.zip.Deflater;
import java.util.zip.Inflater;

/** Deflated bytes as a library makes them, and as it reads them once they are changed; DeflateTest makes them bit by bit. */
public final class InflateTest {
    public static void main(String[] args) {
        Due due = new Due();
        library(due);
        farCopies(due);
        changedStreams(due);
        due.close();
    }

    private static void is(Due due, String what, byte[] raw, byte[] data) {
        Zip zip = new Zip();
        zip.add(Zip.latin("a"), data, raw, 8);
        Desk desk = new Desk();
        due.is(what, desk.report(zip.bytes()), "20@-1:0:0 22@-1:0:0");
        due.yes(what + ": bytes", Arrays.equals(desk.resource(0), data));
    }

    private static void library(Due due) {
        Random random = new Random(7);
        int[] strategies = {Deflater.DEFAULT_STRATEGY, Deflater.FILTERED, Deflater.HUFFMAN_ONLY};
        for (int round = 0; round < 60; round++) {
            byte[] data = new byte[random.nextInt(6001)];
            int letters = 1 + random.nextInt(round % 2 == 0 ? 4 : 256);
            for (int i = 0; i < data.length; i++) {
                data[i] = (byte) (i > 300 && random.nextInt(3) > 0 ? data[i - 1 - random.nextInt(300)] : random.nextInt(letters));
            }
            Deflater deflater = new Deflater(round % 10, true);
            deflater.setStrategy(strategies[round % 3]);
            deflater.setInput(data);
            deflater.finish();
            byte[] raw = new byte[9000];
            int n = 0;
            while (!deflater.finished()) {
                n += deflater.deflate(raw, n, raw.length - n);
            }
            deflater.end();
            is(due, "library " + round, Arrays.copyOf(raw, n), data);
        }
    }

    /** Every distance that a size of 6000 has room for, near its edges. */
    private static void farCopies(Due due) {
        Random random = new Random(9);
        byte[] data = new byte[6000];
        random.nextBytes(data);
        for (int distance : new int[] {1, 2, 4, 5, 8, 9, 16, 17, 32, 33, 64, 65, 128, 129, 256, 257, 512, 513, 1024, 1025, 2048, 2049, 4096,
            4097, 5500}) {
            byte[] row = data.clone();
            for (int i = Math.max(distance, 5600); i < 5990; i++) {
                row[i] = row[i - distance];
            }
            is(due, "a distance of " + distance, Zip.deflate(row), row);
        }
    }

    /** Streams with a bit or some turned over, cut off or made longer: right are those that the library reads to their end. */
    private static void changedStreams(Due due) {
        Random random = new Random(13);
        int right = 0;
        for (int round = 0; round < 250; round++) {
            Zip zip = new Zip();
            StringBuilder want = new StringBuilder();
            for (int i = 0; i < 30; i++) {
                byte[] raw = changed(random, stream(random));
                byte[] data = inflated(raw);
                zip.add(Zip.latin("n" + i), data == null ? new byte[9] : data, raw, 8);
                want.append(data == null ? 0 : 1);
                right += data == null ? 0 : 1;
            }
            Desk desk = new Desk();
            desk.check(zip.bytes());
            StringBuilder got = new StringBuilder();
            for (int i = 0; i < 30; i++) {
                got.append(desk.entry(i, 3));
            }
            due.is("changed streams, round " + round, got.toString(), want.toString());
        }
        due.yes("many of them are right, and many wrong", right > 1000 && right < 6500);
    }

    private static byte[] stream(Random random) {
        byte[] data = new byte[random.nextInt(200)];
        int letters = 1 + random.nextInt(random.nextBoolean() ? 6 : 120);
        for (int i = 0; i < data.length; i++) {
            data[i] = (byte) (i > 20 && random.nextInt(3) == 0 ? data[i - 1 - random.nextInt(20)] : random.nextInt(letters));
        }
        Deflater deflater = new Deflater(random.nextInt(10), true);
        deflater.setStrategy(random.nextInt(3));
        deflater.setInput(data);
        deflater.finish();
        byte[] raw = new byte[600];
        int n = deflater.deflate(raw);
        deflater.end();
        return Arrays.copyOf(raw, n);
    }

    private static byte[] changed(Random random, byte[] raw) {
        byte[] row = raw;
        if (random.nextInt(8) == 0) {
            row = Arrays.copyOf(raw, Math.max(0, raw.length + random.nextInt(3) - 1));
        }
        int flips = random.nextInt(4);
        for (int n = 0; n < flips && row.length > 0; n++) {
            int at = random.nextBoolean() ? random.nextInt(row.length) : random.nextInt(Math.min(row.length, 12));
            row[at] ^= (byte) (1 << random.nextInt(8));
        }
        return row;
    }

    /** What the library makes of a stream, or null if it isn't right, isn't over with its last byte, or is too long here. */
    private static byte[] inflated(byte[] raw) {
        Inflater inflater = new Inflater(true);
        try {
            // The library wants a byte more than there is of a stream without its frame.
            inflater.setInput(Arrays.copyOf(raw, raw.length + 1));
            byte[] out = new byte[801];
            int n = 0;
            int now = 1;
            while (!inflater.finished() && now > 0) {
                now = inflater.inflate(out, n, out.length - n);
                n += now;
            }
            return inflater.finished() && inflater.getBytesRead() == raw.length && n < out.length ? Arrays.copyOf(out, n) : null;
        } catch (DataFormatException e) {
            return null;
        } finally {
            inflater.end();
        }
    }
}
