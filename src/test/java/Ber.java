import java.io.ByteArrayOutputStream;
import java.math.BigInteger;
import java.util.ArrayList;
import java.util.List;

/** Makes fields of tagged octets, in the shortest way, by the document's words and not by the program's code. */
final class Ber {
    static final int INTEGER = 2;
    static final int TEXT = 4;
    static final int NOTHING = 5;
    static final int NAME = 6;
    static final int ROW = 48;
    static final int ADDRESS = 64;
    static final int COUNTER = 65;
    static final int GAUGE = 66;
    static final int TICKS = 67;
    static final int LONG_COUNTER = 70;
    static final int GET = 160;
    static final int NEXT = 161;
    static final int ANSWER = 162;
    static final int SET = 163;
    static final int MANY = 165;

    static final byte[] NO_OBJECT = field(128);
    static final byte[] NO_INSTANCE = field(129);
    static final byte[] END = field(130);
    static final byte[] NULL = field(NOTHING);

    private Ber() {
    }

    static byte[] join(byte[]... parts) {
        ByteArrayOutputStream all = new ByteArrayOutputStream();
        for (byte[] part : parts) {
            all.writeBytes(part);
        }
        return all.toByteArray();
    }

    static byte[] octets(int... octets) {
        byte[] all = new byte[octets.length];
        for (int i = 0; i < octets.length; i++) {
            all[i] = (byte) octets[i];
        }
        return all;
    }

    /** Octets written as pairs of hexadecimal digits. */
    static byte[] hex(String digits) {
        return java.util.HexFormat.of().parseHex(digits.replace(" ", ""));
    }

    static byte[][] times(int n, byte[] pair) {
        byte[][] all = new byte[n][];
        java.util.Arrays.fill(all, pair);
        return all;
    }

    static byte[] field(int tag, byte[]... parts) {
        byte[] content = join(parts);
        int n = content.length;
        byte[] length = n < 128 ? octets(n) : n < 256 ? octets(129, n) : octets(130, n >> 8, n & 255);
        return join(octets(tag), length, content);
    }

    /** A field whose LENGTH is told in so many octets behind the first one. */
    static byte[] longField(int tag, int lengthOctets, byte[]... parts) {
        byte[] content = join(parts);
        byte[] length = new byte[lengthOctets + 1];
        length[0] = (byte) (128 + lengthOctets);
        for (int i = 0; i < lengthOctets; i++) {
            int shift = 8 * (lengthOctets - 1 - i);
            length[i + 1] = (byte) (shift > 24 ? 0 : content.length >> shift);
        }
        return join(octets(tag), length, content);
    }

    static byte[] number(int tag, long v) {
        return field(tag, BigInteger.valueOf(v).toByteArray());
    }

    static byte[] integer(long v) {
        return number(INTEGER, v);
    }

    static byte[] longCounter(long bits) {
        return field(LONG_COUNTER, new BigInteger(Long.toUnsignedString(bits)).toByteArray());
    }

    static byte[] address(int a, int b, int c, int d) {
        return field(ADDRESS, octets(a, b, c, d));
    }

    static byte[] text(String text) {
        return field(TEXT, chars(text));
    }

    static byte[] chars(String text) {
        byte[] all = new byte[text.length()];
        for (int i = 0; i < all.length; i++) {
            all[i] = (byte) text.charAt(i);
        }
        return all;
    }

    static byte[] name(long... numbers) {
        ByteArrayOutputStream content = new ByteArrayOutputStream();
        content.write((int) (40 * numbers[0] + numbers[1]));
        for (int i = 2; i < numbers.length; i++) {
            content.writeBytes(sevens(numbers[i]));
        }
        return field(NAME, content.toByteArray());
    }

    private static byte[] sevens(long number) {
        List<Integer> groups = new ArrayList<>();
        long rest = number;
        do {
            groups.add(0, (int) (rest % 128));
            rest /= 128;
        } while (rest > 0);
        byte[] all = new byte[groups.size()];
        for (int i = 0; i < all.length; i++) {
            all[i] = (byte) (groups.get(i) + (i < all.length - 1 ? 128 : 0));
        }
        return all;
    }

    static byte[] pair(byte[] name, byte[] value) {
        return field(ROW, name, value);
    }

    static byte[] message(int version, String community, int kind, long[] idST, byte[]... pairs) {
        byte[] numbers = join(integer(idST[0]), integer(idST[1]), integer(idST[2]));
        return field(ROW, integer(version), text(community), field(kind, numbers, field(ROW, pairs)));
    }

    /** A question with ID 7 and nothing in s and t. */
    static byte[] ask(int version, int kind, byte[]... pairs) {
        return message(version, "pub", kind, new long[] {7, 0, 0}, pairs);
    }

    static byte[] many(long s, long t, byte[]... pairs) {
        return message(1, "pub", MANY, new long[] {7, s, t}, pairs);
    }

    static byte[] answer(int version, long error, long index, byte[]... pairs) {
        return message(version, "pub", ANSWER, new long[] {7, error, index}, pairs);
    }
}
