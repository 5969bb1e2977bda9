import java.io.ByteArrayOutputStream;
import java.nio.charset.StandardCharsets;
import java.util.StringJoiner;
import java.util.function.IntUnaryOperator;

/**
 * An EpubDesk with calls that take and give more at once. An object's answers are promised for 512 calls alone, so
 * when those are used up the same archive is given to a new one, which has to answer the same.
 */
final class Desk {
    private static final int CALLS = 512;
    private static final int FEED = 20;

    private EpubDesk desk = new EpubDesk();
    private int calls = 0;
    private byte[] archive = new byte[0];

    private static int word(byte[] row, int at) {
        int word = 0;
        for (int i = at; i < at + 4; i++) {
            word = word << 8 | (i < row.length ? row[i] & 255 : 0);
        }
        return word;
    }

    /** Feeds twenty bytes of the row, or what is left of it and zeros. */
    static boolean feed(EpubDesk desk, byte[] row, int at) {
        return desk.feed(word(row, at), word(row, at + 4), word(row, at + 8), word(row, at + 12), word(row, at + 16));
    }

    /** Feeds the whole row: how many calls that took. */
    static int feed(EpubDesk desk, byte[] row) {
        int n = 0;
        for (int at = 0; at < row.length; at += FEED) {
            feed(desk, row, at);
            n++;
        }
        return n;
    }

    /** Feeds the archive, cuts it off and checks it. */
    int check(byte[] row) {
        int need = (row.length + FEED - 1) / FEED + 2;
        if (need >= CALLS) {
            throw new IllegalStateException("an archive of " + row.length + " bytes needs too many calls");
        }
        if (calls + need > CALLS) {
            desk = new EpubDesk();
            calls = 0;
        }
        calls += need;
        archive = row;
        feed(desk, row);
        desk.end(row.length);
        return desk.check();
    }

    private EpubDesk ask() {
        if (calls >= CALLS) {
            check(archive);
        }
        calls++;
        return desk;
    }

    /** Checks again, with nothing fed. */
    int checkNothing() {
        archive = new byte[0];
        return ask().check();
    }

    int message(int i, int what) {
        return ask().message(i, what);
    }

    int about(int what) {
        return ask().about(what);
    }

    int entry(int i, int what) {
        return ask().entry(i, what);
    }

    int name(int i, int k) {
        return ask().name(i, k);
    }

    int resource(int i, int k) {
        return ask().resource(i, k);
    }

    int order(int i) {
        return ask().order(i);
    }

    int contents(int i, int what) {
        return ask().contents(i, what);
    }

    int label(int i, int k) {
        return ask().label(i, k);
    }

    /** The messages as code@entry:line:column. */
    String report() {
        StringJoiner all = new StringJoiner(" ");
        for (int i = 0; message(i, 0) != -3; i++) {
            all.add(message(i, 0) + "@" + message(i, 2) + ":" + message(i, 3) + ":" + message(i, 4));
        }
        return all.toString();
    }

    String report(byte[] row) {
        check(row);
        return report();
    }

    /** All that about() answers. */
    String about() {
        StringJoiner all = new StringJoiner(" ");
        for (int what = 0; what <= 8; what++) {
            all.add(Integer.toString(about(what)));
        }
        return all.toString();
    }

    private static byte[] row(IntUnaryOperator byteAt) {
        ByteArrayOutputStream out = new ByteArrayOutputStream();
        int value = byteAt.applyAsInt(0);
        for (int k = 1; value != EpubDesk.NONE; k++) {
            out.write(value);
            value = byteAt.applyAsInt(k);
        }
        return out.toByteArray();
    }

    String name(int i) {
        return new String(row(k -> name(i, k)), StandardCharsets.UTF_8);
    }

    byte[] resource(int i) {
        return row(k -> resource(i, k));
    }

    String label(int i) {
        return new String(row(k -> label(i, k)), StandardCharsets.UTF_8);
    }

    /** The reading order's names. */
    String order() {
        StringJoiner all = new StringJoiner(" ");
        for (int i = 0; order(i) != EpubDesk.NONE; i++) {
            all.add(name(order(i)));
        }
        return all.toString();
    }

    /** The contents as level>target>label. */
    String contents() {
        StringJoiner all = new StringJoiner("|");
        for (int i = 0; contents(i, 0) != -3; i++) {
            int target = contents(i, 1);
            all.add(contents(i, 0) + ">" + (target < 0 ? "-" : name(target)) + ">" + label(i));
        }
        return all.toString();
    }
}
