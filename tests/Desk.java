import java.io.ByteArrayOutputStream;
import java.util.StringJoiner;

/** An EpubDesk with calls that take and give more at once. */
final class Desk {
    final EpubDesk desk = new EpubDesk();

    private static int word(byte[] row, int at) {
        int word = 0;
        for (int i = at; i < at + 4; i++) {
            word = word << 8 | (i < row.length ? row[i] & 255 : 0);
        }
        return word;
    }

    /** Feeds the archive, cuts it off and checks it. */
    int check(byte[] row) {
        for (int at = 0; at < row.length; at += 20) {
            desk.feed(word(row, at), word(row, at + 4), word(row, at + 8), word(row, at + 12), word(row, at + 16));
        }
        desk.end(row.length);
        return desk.check();
    }

    /** The messages as code@entry:line:column. */
    String report() {
        StringJoiner all = new StringJoiner(" ");
        for (int i = 0; desk.message(i, 0) != -3; i++) {
            all.add(desk.message(i, 0) + "@" + desk.message(i, 2) + ":" + desk.message(i, 3) + ":" + desk.message(i, 4));
        }
        return all.toString();
    }

    String report(byte[] row) {
        check(row);
        return report();
    }

    /** All that about() answers. */
    String about() {
        StringJoiner all = new StringJoiner(" ");
        for (int what = 0; what <= 8; what++) {
            all.add(Integer.toString(desk.about(what)));
        }
        return all.toString();
    }

    String name(int i) {
        ByteArrayOutputStream out = new ByteArrayOutputStream();
        for (int k = 0; desk.name(i, k) != EpubDesk.NONE; k++) {
            out.write(desk.name(i, k));
        }
        return new String(out.toByteArray(), java.nio.charset.StandardCharsets.UTF_8);
    }

    byte[] resource(int i) {
        ByteArrayOutputStream out = new ByteArrayOutputStream();
        for (int k = 0; desk.resource(i, k) != EpubDesk.NONE; k++) {
            out.write(desk.resource(i, k));
        }
        return out.toByteArray();
    }

    String label(int i) {
        ByteArrayOutputStream out = new ByteArrayOutputStream();
        for (int k = 0; desk.label(i, k) != EpubDesk.NONE; k++) {
            out.write(desk.label(i, k));
        }
        return new String(out.toByteArray(), java.nio.charset.StandardCharsets.UTF_8);
    }

    /** The reading order's names. */
    String order() {
        StringJoiner all = new StringJoiner(" ");
        for (int i = 0; desk.order(i) != EpubDesk.NONE; i++) {
            all.add(name(desk.order(i)));
        }
        return all.toString();
    }

    /** The contents as level>target>label. */
    String contents() {
        StringJoiner all = new StringJoiner("|");
        for (int i = 0; desk.contents(i, 0) != -3; i++) {
            int target = desk.contents(i, 1);
            all.add(desk.contents(i, 0) + ">" + (target < 0 ? "-" : name(target)) + ">" + label(i));
        }
        return all.toString();
    }
}
