/** Runs of calls that the tests need again and again. */
final class Hands {
    private Hands() {
    }

    /** The TAPE must be empty before; it has just these bytes then. */
    static void put(StreamSeal x, byte[] row) {
        for (int at = 0; at < row.length; at += 20) {
            x.feed(Bytes.intAt(row, at), Bytes.intAt(row, at + 4), Bytes.intAt(row, at + 8),
                    Bytes.intAt(row, at + 12), Bytes.intAt(row, at + 16));
        }
        x.end(row.length);
    }

    static void setKey(StreamSeal x, byte[] key) {
        put(x, key);
        x.key();
    }

    static void setNonce(StreamSeal x, byte[] nonce) {
        x.nonce(Bytes.intAt(nonce, 0), Bytes.longAt(nonce, 4));
    }

    static StreamSeal made(byte[] key, byte[] nonce) {
        StreamSeal x = new StreamSeal();
        setKey(x, key);
        setNonce(x, nonce);
        return x;
    }

    static StreamSeal made(byte[] key, byte[] nonce, byte[] tape) {
        StreamSeal x = made(key, nonce);
        put(x, tape);
        return x;
    }

    static byte[] out(StreamSeal x) {
        return out(x, 0, x.octet(-1));
    }

    static byte[] out(StreamSeal x, int from, int to) {
        byte[] row = new byte[to - from];
        for (int i = from; i < to; i++) {
            row[i - from] = (byte) x.octet(i);
        }
        return row;
    }
}
