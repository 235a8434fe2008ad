import java.util.Arrays;

/** The document said again with whole rows and the Java library, to hold StreamSeal against. */
final class Model {
    byte[] tape = new byte[0];
    byte[] out = new byte[0];
    byte[] key = new byte[32];
    byte[] nonce = new byte[12];

    int feed(int... numbers) {
        if (tape.length + 20 > 800) {
            return -3;
        }
        for (int number : numbers) {
            tape = Bytes.join(tape, fourBytes(number));
        }
        return tape.length;
    }

    int end(int n) {
        if (n < 0 || n > tape.length) {
            return -1;
        }
        tape = Arrays.copyOf(tape, n);
        return n;
    }

    int take(int n) {
        if (n < 0 || n > tape.length) {
            return -1;
        }
        byte[] longer = Bytes.join(Arrays.copyOf(tape, n), out);
        if (longer.length > 800) {
            return -3;
        }
        tape = longer;
        return tape.length;
    }

    int key() {
        byte[] read = emptied();
        if (read.length != 32) {
            return -1;
        }
        key = read;
        return 0;
    }

    void nonce(int a, long b) {
        nonce = Bytes.join(fourBytes(a), fourBytes((int) (b >> 32)), fourBytes((int) b));
    }

    int stream(int c) {
        return become(Reference.stream(key, nonce, c));
    }

    int sum() {
        return become(Reference.sum(key, emptied()));
    }

    int seal(int n) {
        if (n < 0 || n > tape.length) {
            return -1;
        }
        byte[] read = emptied();
        return become(Reference.seal(key, nonce, Arrays.copyOf(read, n), Arrays.copyOfRange(read, n, read.length)));
    }

    int open(int n) {
        if (n < 0 || (long) n + 16 > tape.length) {
            return -1;
        }
        byte[] read = emptied();
        byte[] opened = Reference.open(key, nonce, Arrays.copyOf(read, n),
                Arrays.copyOfRange(read, n, read.length));
        return opened == null ? -2 : become(opened);
    }

    int digest() {
        return become(Reference.digest(emptied()));
    }

    int mac() {
        return become(Reference.mac(key, emptied()));
    }

    int octet(int k) {
        if (k == -1) {
            return out.length;
        }
        return k < 0 || k >= out.length ? -2 : out[k] & 255;
    }

    private byte[] emptied() {
        byte[] read = tape;
        tape = new byte[0];
        return read;
    }

    private int become(byte[] row) {
        out = row;
        return row.length;
    }

    private static byte[] fourBytes(int number) {
        return new byte[] {(byte) (number >> 24), (byte) (number >> 16), (byte) (number >> 8), (byte) number};
    }
}
