import java.io.ByteArrayOutputStream;

/** Bits written the lowest first, as deflated bytes have them; codes are written as texts of 0 and 1. */
final class Bits {
    private static final int[] ORDER = {16, 17, 18, 0, 8, 7, 9, 6, 10, 5, 11, 4, 12, 3, 13, 2, 14, 1, 15};
    private final StringBuilder bits = new StringBuilder();

    Bits number(int value, int n) {
        for (int i = 0; i < n; i++) {
            bits.append(value >> i & 1);
        }
        return this;
    }

    Bits code(String code) {
        bits.append(code);
        return this;
    }

    private Bits code(int code, int n) {
        return code(Integer.toBinaryString(code + (1 << n)).substring(1));
    }

    Bits align() {
        return align('0');
    }

    Bits align(char filler) {
        while (bits.length() % 8 != 0) {
            bits.append(filler);
        }
        return this;
    }

    int length() {
        return bits.length();
    }

    byte[] bytes() {
        align();
        ByteArrayOutputStream out = new ByteArrayOutputStream();
        for (int i = 0; i < bits.length(); i += 8) {
            int value = 0;
            for (int k = 0; k < 8; k++) {
                value |= (bits.charAt(i + k) - '0') << k;
            }
            out.write(value);
        }
        return out.toByteArray();
    }

    /** A block's beginning: whether it is the last one, and its kind. */
    Bits block(boolean last, int kind) {
        return number(last ? 1 : 0, 1).number(kind, 2);
    }

    Bits stored(boolean last, String text) {
        block(last, 0).align().number(text.length(), 16).number(~text.length(), 16);
        for (int i = 0; i < text.length(); i++) {
            number(text.charAt(i), 8);
        }
        return this;
    }

    /** A letter, the end (256) or a length (above) by the fixed code. */
    Bits letter(int symbol) {
        if (symbol < 144) {
            return code(0x30 + symbol, 8);
        } else if (symbol < 256) {
            return code(0x190 + symbol - 144, 9);
        }
        return symbol < 280 ? code(symbol - 256, 7) : code(0xC0 + symbol - 280, 8);
    }

    Bits end() {
        return letter(256);
    }

    Bits letters(String text) {
        for (int i = 0; i < text.length(); i++) {
            letter(text.charAt(i));
        }
        return this;
    }

    /** A distance by the fixed code, which is told by the rules of RFC 1951 rather than by a row. */
    Bits distance(int distance) {
        int symbol = 0;
        int base = 1;
        while (base + (1 << extra(symbol)) <= distance) {
            base += 1 << extra(symbol);
            symbol++;
        }
        return code(symbol, 5).number(distance - base, extra(symbol));
    }

    private static int extra(int symbol) {
        return symbol < 4 ? 0 : symbol / 2 - 1;
    }

    /** A length by the fixed code, likewise. */
    Bits length(int length) {
        if (length == 258) {
            return letter(285);
        }
        int symbol = 0;
        int base = 3;
        while (base + (1 << lengthExtra(symbol)) <= length) {
            base += 1 << lengthExtra(symbol);
            symbol++;
        }
        return letter(257 + symbol).number(length - base, lengthExtra(symbol));
    }

    private static int lengthExtra(int symbol) {
        return symbol < 8 ? 0 : symbol / 4 - 1;
    }

    /** The beginning of told codes: how many of each there are, and the lengths of the codes for lengths. */
    Bits told(int letters, int distances, int... lengths) {
        number(letters - 257, 5).number(distances - 1, 5).number(15, 4);
        for (int symbol : ORDER) {
            number(symbol < lengths.length ? lengths[symbol] : 0, 3);
        }
        return this;
    }

    /** The same with all codes for lengths: 0 to 12 have four bits, the others five. */
    Bits toldAll(int letters, int distances) {
        return told(letters, distances, 4, 4, 4, 4, 4, 4, 4, 4, 4, 4, 4, 4, 4, 5, 5, 5, 5, 5, 5);
    }

    /** One of the codes for lengths that toldAll tells. */
    Bits told(int symbol) {
        return symbol < 13 ? code(symbol, 4) : code(26 + symbol - 13, 5);
    }

    /** So many lengths 0 (11 or more, or none), by codes 18. */
    Bits zeros(int n) {
        int left = n;
        while (left > 0) {
            int now = left > 138 ? Math.min(138, left - 11) : left;
            told(18).number(now - 11, 7);
            left -= now;
        }
        return this;
    }

    /** All lengths, each told by itself. */
    Bits lengths(int[] row) {
        for (int length : row) {
            told(length);
        }
        return this;
    }
}
