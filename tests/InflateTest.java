import java.io.ByteArrayOutputStream;
import java.util.Arrays;
import java.util.Random;
import java.util.zip.Deflater;

/** Deflated bytes: those that a library makes, and some made bit by bit, right and wrong. */
public final class InflateTest {
    /** Bits written the lowest first; codes are written as texts of 0 and 1. */
    private static final class Bits {
        private final StringBuilder bits = new StringBuilder();

        Bits number(int value, int n) {
            for (int i = 0; i < n; i++) {
                bits.append(value >> i & 1);
            }
            return this;
        }

        Bits code(String code) {
            bits.append(code);
            return this;
        }

        Bits align() {
            while (bits.length() % 8 != 0) {
                bits.append('0');
            }
            return this;
        }

        byte[] bytes() {
            align();
            ByteArrayOutputStream out = new ByteArrayOutputStream();
            for (int i = 0; i < bits.length(); i += 8) {
                int value = 0;
                for (int k = 0; k < 8; k++) {
                    value |= (bits.charAt(i + k) - '0') << k;
                }
                out.write(value);
            }
            return out.toByteArray();
        }
    }

    public static void main(String[] args) {
        Due due = new Due();
        library(due);
        farCopies(due);
        fullRoom(due);
        storedBlocks(due);
        fixedBlocks(due);
        toldBlocks(due);
        toldWrong(due);
        longCodes(due);
        due.close();
    }

    private static void is(Due due, String what, byte[] raw, String data, boolean right) {
        Zip zip = new Zip();
        zip.add(Zip.latin("a"), Zip.latin(data), raw, 8);
        Desk desk = new Desk();
        String report = desk.report(zip.bytes());
        due.is(what, report, "20@-1:0:0 22@-1:0:0" + (right ? "" : " 17@0:0:0"));
        if (right) {
            due.yes(what + ": bytes", Arrays.equals(desk.resource(0), Zip.latin(data)));
        }
    }

    private static void library(Due due) {
        Random random = new Random(7);
        int[] strategies = {Deflater.DEFAULT_STRATEGY, Deflater.FILTERED, Deflater.HUFFMAN_ONLY};
        for (int round = 0; round < 60; round++) {
            byte[] data = new byte[random.nextInt(6001)];
            int letters = 1 + random.nextInt(round % 2 == 0 ? 4 : 256);
            for (int i = 0; i < data.length; i++) {
                data[i] = (byte) (i > 300 && random.nextInt(3) > 0 ? data[i - 1 - random.nextInt(300)] : random.nextInt(letters));
            }
            Deflater deflater = new Deflater(round % 10, true);
            deflater.setStrategy(strategies[round % 3]);
            deflater.setInput(data);
            deflater.finish();
            byte[] raw = new byte[9000];
            int n = 0;
            while (!deflater.finished()) {
                n += deflater.deflate(raw, n, raw.length - n);
            }
            deflater.end();
            is(due, "library " + round, Arrays.copyOf(raw, n), new String(data, java.nio.charset.StandardCharsets.ISO_8859_1), true);
        }
    }

    /** Every distance that a size of 6000 has room for, near its edges. */
    private static void farCopies(Due due) {
        Random random = new Random(9);
        byte[] data = new byte[6000];
        random.nextBytes(data);
        for (int distance : new int[] {1, 2, 4, 5, 8, 9, 16, 17, 32, 33, 64, 65, 128, 129, 256, 257, 512, 513, 1024, 1025, 2048, 2049, 4096, 4097, 5500}) {
            byte[] row = data.clone();
            for (int i = Math.max(distance, 5600); i < 5990; i++) {
                row[i] = row[i - distance];
            }
            is(due, "a distance of " + distance, Zip.deflate(row), new String(row, java.nio.charset.StandardCharsets.ISO_8859_1), true);
        }
    }

    /** Too many bytes in the last entry find no room behind it. */
    private static void fullRoom(Due due) {
        Zip zip = new Zip();
        for (int i = 0; i < 3; i++) {
            zip.deflated("a" + i, new byte[6000]);
        }
        Zip.Entry last = zip.deflated("b", new byte[7000]);
        last.size = 6000;
        last.localSize = 6000;
        due.is("too many bytes at the end", new Desk().report(zip.bytes()), "20@-1:0:0 22@-1:0:0 17@3:0:0");
        zip.entries.remove(3);
        byte[] big = new byte[6001];
        new Random(3).nextBytes(big);
        Deflater deflater = new Deflater(0, true);
        deflater.setInput(big);
        deflater.finish();
        byte[] raw = new byte[7000];
        int n = deflater.deflate(raw);
        deflater.end();
        last = zip.add(Zip.latin("b"), big, Arrays.copyOf(raw, n), 8);
        last.size = 6000;
        last.localSize = 6000;
        due.is("too many stored bytes at the end", new Desk().report(zip.bytes()), "20@-1:0:0 22@-1:0:0 17@3:0:0");
    }

    private static void storedBlocks(Due due) {
        Bits even = new Bits().number(0, 1).number(1, 2).code("110010000").code("110010000").code("110010000").code("0000000").number(1, 3);
        is(due, "a stored block that begins with a byte", even.number(1, 16).number(0xFFFE, 16).number('a', 8).bytes(), "\u0090\u0090\u0090a", true);
        is(due, "a stored block of 65535", new Bits().number(1, 3).align().number(65535, 16).number(0, 16).bytes(), "a", false);
        is(due, "no bytes at all", new byte[0], "", false);
        is(due, "an empty stored block", new Bits().number(1, 1).number(0, 2).align().number(0, 16).number(0xFFFF, 16).bytes(), "", true);
        is(due, "two stored blocks", new Bits().number(0, 3).align().number(1, 16).number(0xFFFE, 16).number('a', 8)
            .number(1, 3).align().number(2, 16).number(0xFFFD, 16).number('b', 8).number('c', 8).bytes(), "abc", true);
        is(due, "a wrong length", new Bits().number(1, 3).align().number(1, 16).number(0xFFFF, 16).number('a', 8).bytes(), "a", false);
        is(due, "too few stored bytes", new Bits().number(1, 3).align().number(2, 16).number(0xFFFD, 16).number('a', 8).bytes(), "aa", false);
        is(due, "no last block", new Bits().number(0, 3).align().number(1, 16).number(0xFFFE, 16).number('a', 8).bytes(), "a", false);
        is(due, "a byte behind", new Bits().number(1, 3).align().number(1, 16).number(0xFFFE, 16).number('a', 8).number(0, 8).bytes(), "a", false);
        is(due, "block of kind 3", new Bits().number(1, 1).number(3, 2).bytes(), "", false);
        is(due, "more bytes than the size", new Bits().number(1, 3).align().number(2, 16).number(0xFFFD, 16).number('a', 8).number('a', 8).bytes(), "a", false);
    }

    private static Bits fixed() {
        return new Bits().number(1, 1).number(1, 2);
    }

    /** A letter below 144 by the fixed code. */
    private static String letter(char c) {
        return Integer.toBinaryString(0x130 + c).substring(1);
    }

    private static void fixedBlocks(Due due) {
        is(due, "an empty fixed block", fixed().code("0000000").bytes(), "", true);
        is(due, "letters", fixed().code(letter('a')).code("110010000").code("0000000").bytes(), "a\u0090", true);
        is(due, "a copy", fixed().code(letter('a')).code("0000001").code("00000").code("0000000").bytes(), "aaaa", true);
        is(due, "a copy of two", fixed().code(letter('a')).code(letter('b')).code("0000011").code("00001").code("0000000").bytes(), "abababa", true);
        is(due, "a copy of 258", fixed().code(letter('a')).code("11000101").code("00000").code("0000000").bytes(), "a".repeat(259), true);
        is(due, "a copy from too far", fixed().code(letter('a')).code("0000001").code("00001").code("0000000").bytes(), "aaaa", false);
        is(due, "a copy from nothing", fixed().code("0000001").code("00000").code("0000000").bytes(), "aaa", false);
        is(due, "letter 286", fixed().code("11000110").code("00000").code("0000000").bytes(), "", false);
        is(due, "letter 287", fixed().code("11000111").code("00000").code("0000000").bytes(), "", false);
        is(due, "distance 30", fixed().code(letter('a')).code("0000001").code("11110").code("0000000").bytes(), "aaaa", false);
        is(due, "distance 31", fixed().code(letter('a')).code("0000001").code("11111").code("0000000").bytes(), "aaaa", false);
        is(due, "no end", fixed().code(letter('a')).bytes(), "a", false);
        is(due, "a copy beyond the size", fixed().code(letter('a')).code("0000001").code("00000").code("0000000").bytes(), "aaa", false);
        Bits far = fixed();
        for (int i = 0; i < 300; i++) {
            far.code(letter((char) ('a' + i % 26)));
        }
        far.code("0000001").code("10000").number(43, 7).code("0000000");
        StringBuilder want = new StringBuilder();
        for (int i = 0; i < 300; i++) {
            want.append((char) ('a' + i % 26));
        }
        is(due, "a distance of 300", far.bytes(), want + "abc", true);
    }

    /** A told block's beginning: lengths 0, 1, 2, 18 have codes of two bits: 00, 01, 10, 11. */
    private static Bits told(int letters, int distances) {
        Bits bits = new Bits().number(1, 1).number(2, 2).number(letters - 257, 5).number(distances - 1, 5).number(14, 4);
        // 16 17 18 0 8 7 9 6 10 5 11 4 12 3 13 2 14 1
        int[] lengths = {0, 0, 2, 2, 0, 0, 0, 0, 0, 0, 0, 0, 0, 0, 0, 2, 0, 2};
        for (int length : lengths) {
            bits.number(length, 3);
        }
        return bits;
    }

    /** Lengths: so many zeros (11 or more), by codes 18. */
    private static Bits zeros(Bits bits, int n) {
        int left = n;
        while (left > 0) {
            int now = left > 138 ? Math.min(138, left - 11) : left;
            bits.code("11").number(now - 11, 7);
            left -= now;
        }
        return bits;
    }

    private static void toldBlocks(Due due) {
        is(due, "one letter code of one bit", zeros(told(257, 1), 256).code("01").code("00").code("0").bytes(), "", true);
        is(due, "the other bit of it", zeros(told(257, 1), 256).code("01").code("00").code("1").bytes(), "", false);
        is(due, "two letters", zeros(zeros(told(257, 1), 97).code("01"), 158).code("01").code("00").code("000").code("1").bytes(), "aaa", true);
        Bits one = zeros(zeros(told(258, 1), 97).code("01"), 158).code("10").code("10").code("01");
        is(due, "one distance code of one bit", one.code("0").code("11").code("0").code("10").bytes(), "aaaa", true);
        one = zeros(zeros(told(258, 1), 97).code("01"), 158).code("10").code("10").code("01");
        is(due, "the other bit of it, unused otherwise", one.code("0").code("11").code("1").code("10").bytes(), "aaaa", false);
        one = zeros(zeros(told(258, 1), 97).code("01"), 158).code("10").code("10").code("00");
        is(due, "no distance code, not used", one.code("0").code("10").bytes(), "a", true);
        one = zeros(zeros(told(258, 1), 97).code("01"), 158).code("10").code("10").code("00");
        is(due, "no distance code, used", one.code("0").code("11").code("0").code("10").bytes(), "aaaa", false);
        one = zeros(zeros(told(258, 2), 97).code("01"), 158).code("10").code("10").code("01").code("01");
        is(due, "two distance codes", one.code("0").code("0").code("11").code("1").code("10").bytes(), "aaaaa", true);
        one = zeros(zeros(told(286, 30), 97).code("01"), 158).code("01");
        is(due, "as many codes as may be", zeros(one, 29 + 30).code("0").code("1").bytes(), "a", true);
    }

    /** A told block's beginning with each length told by itself: lengths 0 to 12 have codes of four bits, the others of five. */
    private static Bits told(int[] letters, int[] distances) {
        Bits bits = new Bits().number(1, 1).number(2, 2).number(letters.length - 257, 5).number(distances.length - 1, 5).number(15, 4);
        int[] order = {16, 17, 18, 0, 8, 7, 9, 6, 10, 5, 11, 4, 12, 3, 13, 2, 14, 1, 15};
        for (int symbol : order) {
            bits.number(symbol < 13 ? 4 : 5, 3);
        }
        for (int[] row : new int[][] {letters, distances}) {
            for (int length : row) {
                int width = length < 13 ? 4 : 5;
                int code = length < 13 ? length : 26 + length - 13;
                bits.code(Integer.toBinaryString(code + (1 << width)).substring(1));
            }
        }
        return bits;
    }

    /** Codes of 1 to 15 bits: 0 to 13 are the letters a to n, the longest two o and the end. */
    private static void longCodes(Due due) {
        int[] letters = new int[257];
        for (int i = 0; i < 15; i++) {
            letters['a' + i] = i + 1;
        }
        letters[256] = 15;
        is(due, "codes of fifteen bits", told(letters, new int[1]).code("0").code("10").code("1".repeat(13) + "0").code("1".repeat(14) + "0").code("1".repeat(15)).bytes(), "abno", true);
        letters['o'] = 0;
        is(due, "one code of fifteen bits is missing", told(letters, new int[1]).code("0").code("10").code("1".repeat(14) + "0").bytes(), "ab", false);
        letters['o'] = 15;
        letters['p'] = 15;
        is(due, "one code of fifteen bits too many", told(letters, new int[1]).code("0").code("10").code("1".repeat(15)).bytes(), "ab", false);
    }

    private static void toldWrong(Due due) {
        is(due, "more letters than the size", zeros(zeros(told(257, 1), 97).code("01"), 158).code("01").code("00").code("000").code("1").bytes(), "aa", false);
        Bits turned = zeros(zeros(told(258, 1), 97).code("01"), 158).code("10").code("10").code("01");
        is(due, "a longer copy than the size", turned.code("0").code("11").code("0").code("10").bytes(), "aaa", false);
        Bits one = zeros(zeros(told(257, 1), 97).code("10"), 158).code("10").code("00");
        is(due, "letters not complete", one.code("00").code("01").bytes(), "a", false);
        one = zeros(told(257, 1), 256).code("10").code("00");
        is(due, "one letter code of two bits", one.code("00").bytes(), "", false);
        one = zeros(zeros(told(257, 1), 96).code("01").code("01"), 158).code("01").code("00");
        is(due, "letters over-subscribed", one.code("0").code("1").bytes(), "a", false);
        one = zeros(zeros(told(257, 1), 96).code("01").code("01"), 158).code("00").code("00");
        is(due, "no code for 256", one.code("0").code("1").bytes(), "a", false);
        one = zeros(zeros(told(257, 1), 97).code("01"), 158).code("01").code("10");
        is(due, "one distance code of two bits", one.code("0").code("1").bytes(), "a", false);
        one = zeros(zeros(told(257, 2), 97).code("01"), 158).code("01").code("01").code("10");
        is(due, "distances not complete", one.code("0").code("1").bytes(), "a", false);
        one = zeros(zeros(told(257, 3), 97).code("01"), 158).code("01").code("01").code("01").code("01");
        is(due, "distances over-subscribed", one.code("0").code("1").bytes(), "a", false);
        one = zeros(zeros(told(287, 1), 97).code("01"), 158).code("01");
        is(due, "287 letter codes", zeros(one, 31).code("0").code("1").bytes(), "a", false);
        one = zeros(zeros(told(257, 31), 97).code("01"), 158).code("01");
        is(due, "31 distance codes", zeros(one, 31).code("0").code("1").bytes(), "a", false);
        one = zeros(zeros(told(257, 1), 97).code("01"), 158).code("01");
        is(due, "a repeat beyond the codes", zeros(one, 11).code("0").code("1").bytes(), "a", false);
        // Codes for lengths: 16, 1, 18 and 0, where a repeat comes first.
        Bits first = new Bits().number(1, 1).number(2, 2).number(0, 5).number(0, 5).number(14, 4);
        int[] lengths = {2, 0, 2, 2, 0, 0, 0, 0, 0, 0, 0, 0, 0, 0, 0, 0, 0, 2};
        for (int length : lengths) {
            first.number(length, 3);
        }
        first.code("10").number(0, 2);
        zeros(first, 94).code("01");
        zeros(first, 158).code("01").code("00").code("0").code("1");
        is(due, "a repeat with nothing ahead", first.bytes(), "a", false);
        Bits lone = new Bits().number(1, 1).number(2, 2).number(0, 5).number(0, 5).number(0, 4).number(0, 9).number(1, 3);
        is(due, "one code for lengths", lone.code("0".repeat(258)).bytes(), "", false);
        Bits over = new Bits().number(1, 1).number(2, 2).number(0, 5).number(0, 5).number(0, 4).number(1, 3).number(1, 3).number(1, 3).number(1, 3);
        is(due, "codes for lengths over-subscribed", over.code("0".repeat(258)).bytes(), "", false);
        is(due, "cut off in the codes", told(257, 1).bytes(), "", false);
    }
}
