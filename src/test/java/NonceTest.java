/** Promise 6: nonce. */
public final class NonceTest {
    public static void main(String[] args) {
        Check check = new Check();
        bytesStandHighestFirst(check);
        nothingElseChanges(check);
        check.end();
    }

    private static void bytesStandHighestFirst(Check check) {
        byte[] key = Bytes.mixed(19, 32);
        StreamSeal x = new StreamSeal();
        Hands.setKey(x, key);
        x.nonce(0x01020304, 0x05060708090a0b0cL);
        x.stream(1);
        check.due("stream of nonce 1 to 12", Hands.out(x),
                Reference.stream(key, Bytes.hex("0102030405060708090a0b0c"), 1));
        x.nonce(Integer.MIN_VALUE, -2L);
        x.stream(1);
        check.due("stream of a negative nonce", Hands.out(x),
                Reference.stream(key, Bytes.hex("80000000fffffffffffffffe"), 1));
        x.nonce(0, Long.MIN_VALUE);
        x.stream(1);
        check.due("stream of the lowest long", Hands.out(x),
                Reference.stream(key, Bytes.hex("000000008000000000000000"), 1));
        x.nonce(-1, 0xffffffffL);
        x.stream(1);
        check.due("stream of the low half", Hands.out(x),
                Reference.stream(key, Bytes.hex("ffffffff00000000ffffffff"), 1));
    }

    private static void nothingElseChanges(Check check) {
        byte[] row = Bytes.mixed(20, 47);
        StreamSeal x = new StreamSeal();
        x.stream(2);
        Hands.put(x, row);
        x.nonce(7, 8);
        check.due("OUT behind nonce", Hands.out(x), Reference.stream(new byte[32], new byte[12], 2));
        x.digest();
        check.due("H behind nonce", Hands.out(x), Reference.digest(row));
    }
}
