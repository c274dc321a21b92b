import java.util.Arrays;

/** DATA as texts of bits, and numbers told by the document's words; blanks in a text are only for reading. */
final class Bits {
    private Bits() {
    }

    /** Bits fill bytes; behind a byte 255 the highest bit is 0; the last byte is filled, and never is 255 the last. */
    static int[] data(String... texts) {
        String bits = String.join("", texts).replace(" ", "");
        int[] bytes = new int[0];
        int from = 0;
        boolean full = false;
        while (from < bits.length() || full) {
            int room = full ? 7 : 8;
            int to = Math.min(bits.length(), from + room);
            int value = 0;
            for (int i = from; i < to; i++) {
                value = 2 * value + (bits.charAt(i) - '0');
            }
            value <<= room - (to - from);
            bytes = Arrays.copyOf(bytes, bytes.length + 1);
            bytes[bytes.length - 1] = value;
            full = value == 255;
            from = to;
        }
        return bytes;
    }

    static String zeros(int count) {
        return "0".repeat(count);
    }

    static String ones(int count) {
        return "1".repeat(count);
    }

    /** The lowest bits of a number, the highest one first. */
    static String low(int value, int count) {
        StringBuilder bits = new StringBuilder();
        for (int i = count - 1; i >= 0; i--) {
            bits.append(value >> i & 1);
        }
        return bits.toString();
    }

    /** A NUMBER m WITH k AND A LIMIT l, for the Q of its measures. */
    static String number(int m, int k, int limit, int q) {
        int z = m >> k;
        return z < limit - q - 1 ? zeros(z) + "1" + low(m, k) : whole(m, limit, q);
    }

    /** The longer form of a number, whether or not it is due. */
    static String whole(int m, int limit, int q) {
        return zeros(limit - q - 1) + "1" + low(m - 1, q);
    }
}
