import java.util.Arrays;
import java.util.Random;
import java.util.zip.Deflater;

/** Deflated bytes as a library makes them, of all kinds; DeflateTest makes them bit by bit. */
public final class InflateTest {
    public static void main(String[] args) {
        Due due = new Due();
        library(due);
        farCopies(due);
        due.close();
    }

    private static void is(Due due, String what, byte[] raw, byte[] data) {
        Zip zip = new Zip();
        zip.add(Zip.latin("a"), data, raw, 8);
        Desk desk = new Desk();
        due.is(what, desk.report(zip.bytes()), "20@-1:0:0 22@-1:0:0");
        due.yes(what + ": bytes", Arrays.equals(desk.resource(0), data));
    }

    private static void library(Due due) {
        Random random = new Random(7);
        int[] strategies = {Deflater.DEFAULT_STRATEGY, Deflater.FILTERED, Deflater.HUFFMAN_ONLY};
        for (int round = 0; round < 60; round++) {
            byte[] data = new byte[random.nextInt(6001)];
            int letters = 1 + random.nextInt(round % 2 == 0 ? 4 : 256);
            for (int i = 0; i < data.length; i++) {
                data[i] = (byte) (i > 300 && random.nextInt(3) > 0 ? data[i - 1 - random.nextInt(300)] : random.nextInt(letters));
            }
            Deflater deflater = new Deflater(round % 10, true);
            deflater.setStrategy(strategies[round % 3]);
            deflater.setInput(data);
            deflater.finish();
            byte[] raw = new byte[9000];
            int n = 0;
            while (!deflater.finished()) {
                n += deflater.deflate(raw, n, raw.length - n);
            }
            deflater.end();
            is(due, "library " + round, Arrays.copyOf(raw, n), data);
        }
    }

    /** Every distance that a size of 6000 has room for, near its edges. */
    private static void farCopies(Due due) {
        Random random = new Random(9);
        byte[] data = new byte[6000];
        random.nextBytes(data);
        for (int distance : new int[] {1, 2, 4, 5, 8, 9, 16, 17, 32, 33, 64, 65, 128, 129, 256, 257, 512, 513, 1024, 1025, 2048, 2049, 4096,
            4097, 5500}) {
            byte[] row = data.clone();
            for (int i = Math.max(distance, 5600); i < 5990; i++) {
                row[i] = row[i - distance];
            }
            is(due, "a distance of " + distance, Zip.deflate(row), row);
        }
    }
}
