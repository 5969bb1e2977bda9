import java.util.Arrays;
import java.util.Random;

/** Edges of deflated bytes: each thing that the document calls wrong there, and what is just right beside it. */
public final class DeflateTest {
    private final Due due = new Due();

    public static void main(String[] args) {
        DeflateTest test = new DeflateTest();
        test.kinds();
        test.storedBlocks();
        test.lengthsOfCopies();
        test.distancesOfCopies();
        test.distancesBeyond();
        test.signsThatAreNot();
        test.sizes();
        test.wrongAtTheEnd();
        test.ends();
        test.lastBits();
        test.manyBlocks();
        test.numbersOfCodes();
        test.codesForLengths();
        test.repeats();
        test.letterCodes();
        test.distanceCodes();
        test.due.close();
    }

    private void is(String what, byte[] raw, String data, boolean right) {
        Zip zip = new Zip();
        zip.add(Zip.latin("a"), Zip.latin(data), raw, 8);
        Desk desk = new Desk();
        due.is(what, desk.report(zip.bytes()), "20@-1:0:0 22@-1:0:0" + (right ? "" : " 17@0:0:0"));
        due.yes(what + ": bytes", Arrays.equals(desk.resource(0), right ? Zip.latin(data) : new byte[0]));
    }

    private void right(String what, Bits bits, String data) {
        is(what, bits.bytes(), data, true);
    }

    private void wrong(String what, Bits bits, String data) {
        is(what, bits.bytes(), data, false);
    }

    private static Bits fixed() {
        return new Bits().block(true, 1);
    }

    private static String noise(int n) {
        Random random = new Random(n);
        StringBuilder text = new StringBuilder();
        for (int i = 0; i < n; i++) {
            text.append((char) random.nextInt(256));
        }
        return text.toString();
    }

    private void kinds() {
        right("kind 0", new Bits().stored(true, "x"), "x");
        right("kind 1", fixed().letters("x").end(), "x");
        right("kind 2", toldLetters().code("0").code("1"), "a");
        wrong("kind 3", new Bits().block(true, 3), "");
        wrong("kind 3 with what would be right", new Bits().block(true, 3).letters("x").end(), "x");
        wrong("kind 3 with told codes", new Bits().block(true, 3).toldAll(257, 1).zeros(97).told(1).zeros(158).told(1).told(0).code("01"),
            "a");
        wrong("kind 3 with a stored byte", new Bits().block(true, 3).align().number(1, 16).number(~1, 16).number('x', 8), "x");
        wrong("kind 3 behind another block", new Bits().stored(false, "x").block(true, 3), "x");
        wrong("kind 3 that isn't the last", new Bits().block(false, 3).stored(true, "x"), "x");
    }

    private static Bits all(int letters, int distances) {
        return new Bits().block(true, 2).toldAll(letters, distances);
    }

    /** A told block of a and the end, each with a code of one bit, and no distances. */
    private static Bits toldLetters() {
        return all(257, 1).zeros(97).told(1).zeros(158).told(1).told(0);
    }

    private void storedBlocks() {
        right("none", new Bits().stored(true, ""), "");
        right("6000", new Bits().stored(true, noise(6000)), noise(6000));
        for (int i = 0; i < 16; i++) {
            Bits bits = new Bits().block(true, 0).align().number(2, 16).number(~2 ^ 1 << i, 16).number('x', 8).number('x', 8);
            wrong("bit " + i + " of the length turned over", bits, "xx");
            wrong("bit " + i + " of the length", new Bits().block(true, 0).align().number(2 ^ 1 << i, 16).number(~2, 16).number('x', 8)
                .number('x', 8), "xx");
        }
        wrong("a length that isn't turned over", new Bits().block(true, 0).align().number(2, 16).number(2, 16).number('x', 8).number('x',
            8), "xx");
        Bits bits = new Bits().block(true, 0).align('1').number(1, 16).number(~1, 16).number('x', 8);
        right("the rest of the byte is skipped, whatever it has", bits, "x");
        // Six letters of nine bits make a block end with a byte: then nothing is skipped but what the next one begins.
        bits = new Bits().block(false, 1).letters("\u0090\u0091\u0092\u0093\u0094\u0095").end();
        due.is("bits of a block", bits.length() % 8, 0);
        right("a block that begins with a byte", bits.stored(true, "x"), "\u0090\u0091\u0092\u0093\u0094\u0095x");
        bits = new Bits().block(false, 1).letters("\u0090\u0091\u0092").end();
        due.is("bits of a block, and three more", (bits.length() + 3) % 8, 0);
        right("a block whose beginning ends a byte", bits.stored(true, "x"), "\u0090\u0091\u0092x");
        wrong("a byte too few", new Bits().block(true, 0).align().number(2, 16).number(~2, 16).number('x', 8), "xx");
        for (int n = 1; n < 40; n++) {
            Bits few = new Bits().block(true, 0).align().number(n + 1, 16).number(~(n + 1), 16);
            for (int i = 0; i < n; i++) {
                few.number('x', 8);
            }
            wrong("a byte too few, of " + n, few, "x".repeat(n + 1));
        }
        for (int n = 0; n < 8; n++) {
            String text = "\u0090".repeat(n);
            right("a block that begins at any bit, " + n, new Bits().block(false, 1).letters(text).end().stored(true, "x"), text + "x");
        }
        wrong("a byte too many", new Bits().stored(true, "x").number('x', 8), "x");
        wrong("65535", new Bits().block(true, 0).align().number(65535, 16).number(0, 16).number('x', 8), "x");
        wrong("a length alone", new Bits().block(true, 0).align().number(0, 16), "");
        wrong("half a length", new Bits().block(true, 0).align().number(0, 8), "");
    }

    private void lengthsOfCopies() {
        for (int length = 3; length <= 258; length++) {
            right("a copy of " + length, fixed().letters("a").length(length).distance(1).end(), "a".repeat(length + 1));
            right("a copy of " + length + " by two", fixed().letters("ab").length(length).distance(2).end(), "ab".repeat(130).substring(0,
                length + 2));
        }
        right("258 by the code before the last", fixed().letters("a").letter(284).number(31, 5).distance(1).end(), "a".repeat(259));
    }

    private void distancesOfCopies() {
        int[] edges = {1, 2, 3, 4, 5, 6, 7, 8, 9, 12, 13, 16, 17, 24, 25, 32, 33, 48, 49, 64, 65, 96, 97, 128, 129, 192, 193, 256, 257, 384,
            385, 512, 513, 768, 769, 1024, 1025,
            1536, 1537, 2048, 2049, 3072, 3073, 4096, 4097, 5997};
        for (int distance : edges) {
            String text = noise(distance);
            String copied = text.repeat(4).substring(0, distance + 3);
            right("all the way back, " + distance, new Bits().stored(false, text).block(true, 1).length(3).distance(distance).end(),
                copied);
            String shorter = text.substring(1);
            wrong("one further, " + distance, new Bits().stored(false, shorter).block(true, 1).length(3).distance(distance).end(), shorter
                + "abc");
        }
        right("a copy of a copy", fixed().letters("ab").length(4).distance(2).length(5).distance(3).end(), "ababab" + "babba");
    }

    private void distancesBeyond() {
        wrong("nothing ahead", fixed().length(3).distance(1).end(), "aaa");
        wrong("the farthest", fixed().letters("a").length(3).distance(32768).end(), "aaaa");
        wrong("8193", new Bits().stored(false, noise(5000)).block(true, 1).length(3).distance(8193).end(), noise(5000) + "aaa");
        // What came out of the entry ahead stands right ahead of this one's bytes, but isn't its own.
        Zip zip = new Zip();
        zip.stored("a", Zip.latin("xyz"));
        zip.add(Zip.latin("b"), Zip.latin("zzz"), fixed().length(3).distance(1).end().bytes(), 8);
        zip.add(Zip.latin("c"), Zip.latin("aaa"), fixed().letters("a").length(3).distance(2).end().bytes(), 8);
        due.is("another entry's bytes", new Desk().report(zip.bytes()), "20@-1:0:0 22@-1:0:0 17@1:0:0 17@2:0:0");
    }

    private void signsThatAreNot() {
        for (int symbol : new int[] {286, 287}) {
            wrong("letter " + symbol, fixed().letters("a").letter(symbol).end(), "a");
            wrong("letter " + symbol + " with a distance", fixed().letters("a").letter(symbol).distance(1).end(), "aaaa");
        }
        for (int symbol : new int[] {30, 31}) {
            String code = Integer.toBinaryString(symbol);
            wrong("distance " + symbol, fixed().letters("a").length(3).code(code).end(), "aaaa");
            wrong("distance " + symbol + " with more bits", fixed().letters("a").length(3).code(code).number(0, 14).end(), "aaaa");
        }
        right("letter 285", fixed().letters("a").letter(285).distance(1).end(), "a".repeat(259));
        for (int letter : new int[] {0, 143, 144, 255}) {
            right("letter " + letter, fixed().letter(letter).end(), String.valueOf((char) letter));
        }
    }

    /** Just the size: no fewer, no more, by letters, copies and stored bytes. */
    private void sizes() {
        right("6000 by copies", copies(6000), "a".repeat(6000));
        for (int by = -1; by <= 1; by += 2) {
            String what = by < 0 ? "one less than " : "one more than ";
            wrong(what + "came out, letters", fixed().letters("abc").end(), "abcd".substring(0, 3 + by));
            wrong(what + "came out, a copy", fixed().letters("a").length(3).distance(1).end(), "a".repeat(4 + by));
            wrong(what + "came out, stored", new Bits().stored(true, "abc"), "abcd".substring(0, 3 + by));
        }
        wrong("no size, a letter", fixed().letters("a").end(), "");
        right("no size, no letter", fixed().end(), "");
        Zip zip = new Zip();
        for (int i = 0; i < 3; i++) {
            zip.deflated("a" + i, new byte[6000]);
        }
        Zip.Entry last = zip.add(Zip.latin("b"), new byte[6000], copies(6000).bytes(), 8);
        due.is("the last size is filled", new Desk().report(zip.bytes()), "20@-1:0:0 22@-1:0:0 18@3:0:0");
        for (Bits bits : new Bits[] {copies(6001), new Bits().stored(true, noise(6001)), fixed().letters("a".repeat(6001)).end()}) {
            last.raw = bits.bytes();
            last.packed = last.raw.length;
            last.localPacked = last.raw.length;
            due.is("no room behind the last size", new Desk().report(zip.bytes()), "20@-1:0:0 22@-1:0:0 17@3:0:0");
        }
    }

    private static Bits copies(int n) {
        Bits bits = fixed().letters("a");
        int left = n - 1;
        while (left > 0) {
            int now = left > 258 ? Math.min(258, left - 3) : left;
            bits.length(now).distance(1);
            left -= now;
        }
        return bits.end();
    }

    /** What came out ahead of what is wrong has just the size, and nothing or the end is behind: it is wrong all the same. */
    private void wrongAtTheEnd() {
        for (String end : new String[] {"", "0000000"}) {
            wrong("a distance beyond", fixed().letters("a").length(3).distance(2).code(end), "a");
            wrong("a distance far beyond", fixed().letters("a").length(3).distance(5000).code(end), "a");
            wrong("nothing ahead", fixed().length(3).distance(1).code(end), "");
            for (int symbol : new int[] {286, 287}) {
                wrong("letter " + symbol, fixed().letters("a").letter(symbol).code(end), "a");
                wrong("letter " + symbol + " and a distance", fixed().letters("a").letter(symbol).distance(1).code(end), "a");
            }
            for (String code : new String[] {"11110", "11111"}) {
                wrong("distance " + code, fixed().letters("a").length(3).code(code).code(end), "a");
                wrong("distance " + code + " and more bits", fixed().letters("a").length(3).code(code).number(0, 14).code(end), "a");
            }
            wrong("a letter more", fixed().letters("ab").code(end), "a");
            wrong("a copy more", fixed().letters("a").length(3).distance(1).code(end), "a");
            wrong("a copy, less", fixed().letters("a").length(3).distance(1).code(end), "aaa");
        }
        wrong("a stored byte more", new Bits().stored(false, "a").stored(true, "b"), "a");
        wrong("a letter code that isn't there", letters(256, 1).code("1"), "");
        wrong("a distance code that isn't there", distances(1).code("11").code("1"), "a");
        wrong("no distance code", distances(0).code("11"), "a");
        wrong("no distance code, and bits", distances(0).code("11").code("0"), "a");
        wrong("kind 3", new Bits().block(false, 1).letters("a").end().block(true, 3), "a");
        wrong("a length that isn't turned over", new Bits().stored(false, "a").block(true, 0).align().number(0, 16).number(0, 16), "a");
        // Were too many codes taken for none at all, those of the block ahead would stand, and read the rest.
        for (int[] counts : new int[][] {{30, 0}, {31, 0}, {0, 30}, {0, 31}}) {
            Bits bits = new Bits().block(false, 1).letters("a").end().block(true, 2).number(counts[0], 5).number(counts[1], 5).number(15,
                4);
            wrong("too many codes, and what is right by those ahead", bits.letters("b").end(), "ab");
        }
    }

    /** Cut off anywhere, or with a byte behind, nothing is right any more. */
    private void ends() {
        String text = "some data, some data, \u0090\u0091 some data";
        Bits told = toldLetters().code("000000000").code("1");
        byte[][] rows = {new Bits().stored(false, "ab").stored(true, "cd").bytes(), fixed().letters("some").length(9).distance(4)
            .end().bytes(), told.bytes(), Zip.deflate(Zip.latin(text))};
        String[] texts = {"abcd", "somesomesomes", "aaaaaaaaa", text};
        for (int i = 0; i < rows.length; i++) {
            is("row " + i, rows[i], texts[i], true);
            for (int n = 0; n < rows[i].length; n++) {
                is("row " + i + " cut off behind " + n, Arrays.copyOf(rows[i], n), texts[i], false);
            }
            is("row " + i + " with a byte behind", Arrays.copyOf(rows[i], rows[i].length + 1), texts[i], false);
        }
        wrong("no bytes", new Bits(), "");
        wrong("no last block", new Bits().block(false, 1).letters("a").end(), "a");
        wrong("no last block, stored", new Bits().stored(false, "a"), "a");
        wrong("a last block behind the last", new Bits().stored(true, "a").stored(true, ""), "a");
    }

    /** The byte in which the last bit is counts as used, whatever its other bits are. */
    private void lastBits() {
        for (int n = 0; n < 16; n++) {
            // Letters of nine bits make the end fall on each bit of a byte.
            Bits bits = fixed().letters("\u0090".repeat(n)).end();
            int length = bits.length();
            is("an end at bit " + length % 8, bits.align('1').bytes(), "\u0090".repeat(n), true);
            is("an end at bit " + length % 8 + ", and a byte", Arrays.copyOf(bits.bytes(), bits.bytes().length + 1), "\u0090".repeat(n),
                false);
            is("an end at bit " + length % 8 + ", less a byte", Arrays.copyOf(bits.bytes(), bits.bytes().length - 1), "\u0090".repeat(n),
                false);
        }
    }

    private void manyBlocks() {
        Bits bits = new Bits();
        for (int i = 0; i < 500; i++) {
            bits.block(false, 1).end();
        }
        right("many empty blocks", bits.block(true, 1).letters("a").end(), "a");
        bits = new Bits();
        for (int i = 0; i < 200; i++) {
            bits.stored(false, i % 2 == 0 ? "" : "x");
        }
        right("many stored blocks", bits.stored(true, ""), "x".repeat(100));
        right("a copy from a block ahead", new Bits().block(false, 1).letters("abc").end().block(true, 1).length(3).distance(3).end(),
            "abcabc");
        Bits mixed = new Bits().stored(false, "ab").block(false, 1).letters("c").end().stored(false, "d").block(true, 1).letters("e").end();
        right("stored and fixed in turn", mixed, "abcde");
        Bits told = new Bits().block(false, 2).toldAll(257, 1).zeros(97).told(1).zeros(158).told(1).told(0).code("001");
        right("fixed codes behind told ones", told.block(true, 1).letters("bc").length(3).distance(4).end(), "aabcaab");
        Bits first = new Bits().block(false, 1).letters("bc").end().block(false, 2).toldAll(257, 1).zeros(97).told(1).zeros(158).told(1)
            .told(0).code("001");
        right("told codes behind fixed ones, and others behind them", first.block(true, 2).toldAll(257, 1).zeros(98).told(1).zeros(157)
            .told(1).told(0).code("01"), "bcaab");
    }

    /** A told block with so many codes, of which a and the end have one bit each; the rest have none. */
    private static Bits counted(int letters, int distances) {
        Bits bits = all(letters, distances).zeros(97).told(1).zeros(158).told(1);
        for (int i = 257; i < letters + distances; i++) {
            bits.told(0);
        }
        return bits.code("0").code("1");
    }

    private void numbersOfCodes() {
        right("257 and 1", counted(257, 1), "a");
        right("286 letters", counted(286, 1), "a");
        wrong("287 letters", counted(287, 1), "a");
        wrong("288 letters", counted(288, 1), "a");
        right("30 distances", counted(257, 30), "a");
        wrong("31 distances", counted(257, 31), "a");
        wrong("32 distances", counted(257, 32), "a");
        right("286 and 30", counted(286, 30), "a");
        wrong("288 and 32", counted(288, 32), "a");
    }

    /** Lengths 0, 1 and 18 by codes of these lengths; what they make up would be right. */
    private static Bits lengthCodes(int zero, int one, int many, int spare) {
        return new Bits().block(true, 2).told(257, 1, zero, one, spare, 0, 0, 0, 0, 0, 0, 0, 0, 0, 0, 0, 0, 0, 0, 0, many);
    }

    private void codesForLengths() {
        // Codes of 1 and 2 bits: 18 has 0, 0 has 10, 1 has 11.
        String rest = "0" + bits(86, 7) + "11" + "0" + bits(127, 7) + "0" + bits(9, 7) + "11" + "10" + "0" + "1";
        right("complete", lengthCodes(2, 2, 1, 0).code(rest), "a");
        wrong("over-subscribed", lengthCodes(2, 2, 1, 2).code(rest), "a");
        wrong("far over-subscribed", lengthCodes(1, 1, 1, 1).code(rest), "a");
        wrong("not complete", lengthCodes(3, 2, 1, 0).code(rest), "a");
        wrong("not complete, two of two bits", lengthCodes(2, 0, 2, 0).code("0".repeat(400)), "");
        wrong("just one of one bit", lengthCodes(1, 0, 0, 0).code("0".repeat(400)), "");
        wrong("none", lengthCodes(0, 0, 0, 0).code("0".repeat(400)), "");
        // Four told lengths are the fewest: those of 16, 17, 18 and 0, which can't tell a code.
        Bits few = new Bits().block(true, 2).number(0, 5).number(0, 5).number(0, 4).number(0, 3).number(0, 3).number(1, 3).number(1, 3);
        wrong("four codes for lengths, no code for 256", few.code("1").number(127, 7).code("1").number(109, 7).code("0"), "");
    }

    private static String bits(int value, int n) {
        StringBuilder text = new StringBuilder();
        for (int i = 0; i < n; i++) {
            text.append(value >> i & 1);
        }
        return text.toString();
    }

    private void repeats() {
        wrong("16 with nothing ahead", all(257, 1).told(16).number(0, 2).zeros(94).told(1).zeros(158).told(1).told(0).code("0").code("1"),
            "a");
        right("17 with nothing ahead", all(257, 1).told(17).number(7, 3).zeros(87).told(1).zeros(158).told(1).told(0).code("0").code("1"),
            "a");
        right("18 with nothing ahead", toldLetters().code("0").code("1"), "a");
        right("16 behind a 0", all(257, 1).told(0).told(16).number(3, 2).zeros(90).told(1).zeros(158).told(1).told(0).code("0").code("1"),
            "a");
        right("16 behind an 18", all(257, 1).zeros(91).told(16).number(3, 2).told(1).zeros(158).told(1).told(0).code("0").code("1"), "a");
        right("16 over letters, to the last", all(257, 1).zeros(253).told(2).told(16).number(0, 2).told(0).code("00").code("11"), "\u00fd");
        right("16 of six", all(257, 1).zeros(97).told(3).told(16).number(3, 2).zeros(152).told(3).told(0).code("000").code("111"), "a");
        right("16 of distances, with a letter's length", all(257, 4).zeros(97).told(2).zeros(156).lengths(new int[] {2, 2, 2}).told(16)
            .number(1, 2).code("00").code("11"), "a");
        right("16 over the border", all(257, 4).zeros(97).told(2).zeros(156).told(2).told(16).number(3, 2).code("00").code("11"), "a");
        right("17 over the border", all(259, 2).zeros(97).told(1).zeros(158).told(1).told(17).number(1, 3).code("0").code("1"), "a");
        right("18 over the border", all(270, 5).zeros(97).told(1).zeros(158).told(1).told(18).number(7, 7).code("0").code("1"), "a");
        right("17 to the end", all(257, 10).zeros(97).told(1).zeros(158).told(1).told(17).number(7, 3).code("0").code("1"), "a");
        wrong("17 one beyond the end", all(257, 9).zeros(97).told(1).zeros(158).told(1).told(17).number(7, 3).code("0").code("1"), "a");
        right("18 to the end", all(257, 11).zeros(97).told(1).zeros(158).told(1).told(18).number(0, 7).code("0").code("1"), "a");
        wrong("18 one beyond the end", all(257, 10).zeros(97).told(1).zeros(158).told(1).told(18).number(0, 7).code("0").code("1"), "a");
        wrong("18 far beyond the end", all(257, 1).zeros(97).told(1).zeros(158).told(1).told(18).number(127, 7).code("0").code("1"), "a");
        right("16 to the end", all(257, 4).zeros(97).told(1).zeros(158).told(1).told(0).told(16).number(0, 2).code("0").code("1"), "a");
        wrong("16 one beyond the end", all(257, 3).zeros(97).told(1).zeros(158).told(1).told(0).told(16).number(0, 2).code("0").code("1"),
            "a");
        wrong("a repeat cut off", all(257, 1).zeros(97).told(1).zeros(158).told(1).told(18), "");
    }

    /** Lengths of letters: those told, and no distances. */
    private static Bits letters(int... pairs) {
        int[] row = new int[257];
        for (int i = 0; i < pairs.length; i += 2) {
            row[pairs[i]] = pairs[i + 1];
        }
        return all(257, 1).lengths(row).told(0);
    }

    private void letterCodes() {
        right("two of one bit", letters('a', 1, 256, 1).code("0").code("1"), "a");
        right("256 alone, of one bit", letters(256, 1).code("0"), "");
        wrong("256 alone, by the code that isn't there", letters(256, 1).code("1"), "");
        wrong("256 alone, by the code that isn't there, and more", letters(256, 1).code("1").code("0".repeat(20)), "");
        for (int length = 2; length <= 15; length++) {
            wrong("256 alone, of " + length + " bits", letters(256, length).code("0".repeat(length)), "");
        }
        wrong("another alone, of one bit", letters('a', 1).code("0"), "a");
        wrong("none", letters().code("0"), "");
        wrong("no code for 256, complete", letters('a', 1, 'b', 1).code("0"), "a");
        wrong("not complete, two", letters('a', 1, 256, 2).code("0").code("10"), "a");
        wrong("not complete, 256 of one bit", letters('a', 2, 256, 1).code("10").code("0"), "a");
        right("complete, three", letters('a', 1, 'b', 2, 256, 2).code("0").code("10").code("11"), "ab");
        wrong("over-subscribed, three", letters('a', 1, 'b', 1, 256, 1).code("0").code("1"), "a");
        wrong("over-subscribed, by the longest", letters('a', 1, 'b', 1, 256, 15).code("0").code("1"), "a");
        wrong("over-subscribed, by the shortest", letters('a', 2, 'b', 2, 'c', 2, 'd', 2, 256, 1).code("10").code("0"), "a");
        int[] deep = new int[32];
        for (int i = 0; i < 15; i++) {
            deep[2 * i] = 'a' + i;
            deep[2 * i + 1] = i + 1;
        }
        deep[30] = 256;
        deep[31] = 15;
        right("of one to fifteen bits", letters(deep).code("1".repeat(14) + "0").code("1".repeat(15)), "o");
        wrong("a longest one missing", letters(Arrays.copyOf(deep, 30)).code("0"), "a");
        deep[29] = 0;
        wrong("a longest one missing beside 256", letters(deep).code("0").code("1".repeat(14) + "0"), "a");
    }

    /** Letters a (one bit), 256 and 257 (two bits each), and these lengths of distances. */
    private static Bits distances(int... row) {
        int[] letters = new int[258];
        letters['a'] = 1;
        letters[256] = 2;
        letters[257] = 2;
        return all(258, row.length).lengths(letters).lengths(row).code("0");
    }

    private void distanceCodes() {
        right("none, not used", distances(0).code("10"), "a");
        right("none of several, not used", distances(0, 0, 0).code("10"), "a");
        wrong("none, used", distances(0).code("11").code("0").code("10"), "aaaa");
        wrong("none, used, with bits enough", distances(0).code("11").code("0".repeat(30)), "aaaa");
        right("one of one bit", distances(1).code("11").code("0").code("10"), "aaaa");
        right("one of one bit, not used", distances(1).code("10"), "a");
        wrong("one of one bit, the code that isn't there", distances(1).code("11").code("1").code("10"), "aaaa");
        wrong("one of one bit, the code that isn't there, with bits enough", distances(1).code("11").code("1").code("10")
            .code("0".repeat(30)), "aaaa");
        right("one of one bit, the second", distances(0, 1).code("0").code("11").code("0").code("10"), "aaaaa");
        right("one of one bit, the last of thirty", distances(new int[30 - 1]).code("10"), "a");
        for (int length = 2; length <= 15; length++) {
            wrong("one of " + length + " bits", distances(length).code("10"), "a");
            wrong("one of " + length + " bits, the second", distances(0, length).code("10"), "a");
        }
        right("two of one bit", distances(1, 1).code("0").code("11").code("1").code("10"), "aaaaa");
        wrong("two, not complete", distances(1, 2).code("10"), "a");
        wrong("two of two bits", distances(2, 2).code("10"), "a");
        wrong("three of one bit", distances(1, 1, 1).code("10"), "a");
        right("three, complete", distances(1, 2, 2).code("00").code("11").code("11").code("10"), "aaaaaa");
        right("four of two bits", distances(2, 2, 2, 2).code("10"), "a");
        wrong("five of two bits", distances(2, 2, 2, 2, 2).code("10"), "a");
        wrong("over-subscribed by the longest", distances(1, 1, 15).code("10"), "a");
        int[] deep = new int[16];
        for (int i = 0; i < 16; i++) {
            deep[i] = Math.min(i + 1, 15);
        }
        right("of one to fifteen bits", distances(deep).code("10"), "a");
        deep[0] = 0;
        wrong("not complete, the shortest missing", distances(deep).code("10"), "a");
        deep[0] = 1;
        deep[15] = 0;
        wrong("not complete, the longest missing", distances(deep).code("10"), "a");
    }
}
