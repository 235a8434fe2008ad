import java.nio.charset.StandardCharsets;
import java.util.Arrays;
import java.util.HexFormat;

/** Rows of bytes for the tests. */
final class Bytes {
    private Bytes() {
    }

    static byte[] hex(String text) {
        return HexFormat.of().parseHex(text.replaceAll("\\s", ""));
    }

    static byte[] text(String text) {
        return text.getBytes(StandardCharsets.ISO_8859_1);
    }

    static byte[] join(byte[]... rows) {
        byte[] all = new byte[0];
        for (byte[] row : rows) {
            int at = all.length;
            all = Arrays.copyOf(all, at + row.length);
            System.arraycopy(row, 0, all, at, row.length);
        }
        return all;
    }

    static byte[] repeat(int value, int size) {
        byte[] row = new byte[size];
        Arrays.fill(row, (byte) value);
        return row;
    }

    /** Bytes that differ from place to place, and from one seed to another. */
    static byte[] mixed(int seed, int size) {
        byte[] row = new byte[size];
        int state = seed * 0x9e3779b1 + 0x7f4a7c15;
        for (int i = 0; i < size; i++) {
            state = state * 1664525 + 1013904223;
            row[i] = (byte) (state >>> 24);
        }
        return row;
    }

    static byte[] changed(byte[] row, int at) {
        byte[] copy = row.clone();
        copy[at] ^= 1;
        return copy;
    }

    static int intAt(byte[] row, int at) {
        int value = 0;
        for (int i = at; i < at + 4; i++) {
            value = value << 8 | (i < row.length ? row[i] & 255 : 0);
        }
        return value;
    }

    static long longAt(byte[] row, int at) {
        return (long) intAt(row, at) << 32 | intAt(row, at + 4) & 0xffffffffL;
    }
}
