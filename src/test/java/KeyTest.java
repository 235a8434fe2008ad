/** Promise 5: key. */
public final class KeyTest {
    private static final byte[] NOTHING = new byte[0];

    public static void main(String[] args) {
        Check check = new Check();
        theTapeBecomesTheKey(check);
        anotherKeyTakesItsPlace(check);
        keysOfLowestAndHighestBytes(check);
        aByteTooFewIsRefused(check);
        aByteTooManyIsRefused(check);
        anEmptyTapeIsRefused(check);
        anyOtherSizeIsRefused(check);
        check.end();
    }

    private static void theTapeBecomesTheKey(Check check) {
        check.words("The TAPE becomes THE KEY: 0");
        byte[] key = Bytes.mixed(14, 32);
        StreamSeal x = Scene.with(key);
        check.due("key()", x.key(), 0);
        Scene.holds(check, "behind key()", x, NOTHING, Scene.OUT, key, Scene.NONCE);
    }

    private static void anotherKeyTakesItsPlace(Check check) {
        check.words("The TAPE becomes THE KEY (each time)");
        StreamSeal x = new StreamSeal();
        for (int i = 0; i < 3; i++) {
            byte[] key = Bytes.mixed(15 + i, 32);
            Hands.put(x, key);
            check.due("key() " + i, x.key(), 0);
            x.stream(1);
            check.due("stream behind key() " + i, Hands.out(x), Reference.stream(key, new byte[12], 1));
        }
        // The TAPE that is fed later is not THE KEY any more.
        x.feed(-1, -1, -1, -1, -1);
        x.stream(1);
        check.due("stream behind feed", Hands.out(x), Reference.stream(Bytes.mixed(17, 32), new byte[12], 1));
    }

    private static void keysOfLowestAndHighestBytes(Check check) {
        check.words("THE KEY: 32 bytes");
        int[] values = {0, 1, 127, 128, 255};
        for (int value : values) {
            byte[] key = Bytes.repeat(value, 32);
            StreamSeal x = Scene.with(key);
            check.due("key() of bytes " + value, x.key(), 0);
            Scene.holds(check, "behind key() of bytes " + value, x, NOTHING, Scene.OUT, key, Scene.NONCE);
        }
        for (int at = 0; at < 32; at++) {
            byte[] key = new byte[32];
            key[at] = -1;
            StreamSeal x = new StreamSeal();
            Hands.setKey(x, key);
            x.stream(1);
            check.due("stream of a key with byte " + at, Hands.out(x), Reference.stream(key, new byte[12], 1));
        }
    }

    /** THE KEY stays, and the TAPE is empty though the call was REFUSED. */
    private static void refused(Check check, int size) {
        StreamSeal x = Scene.with(Bytes.mixed(18, size));
        check.due("key() of " + size, x.key(), StreamSeal.REFUSED);
        Scene.holds(check, "behind key() of " + size, x, NOTHING, Scene.OUT);
    }

    private static void aByteTooFewIsRefused(Check check) {
        check.words("REFUSED if it has not 32 bytes (one less; it is empty, too)");
        refused(check, 31);
    }

    private static void aByteTooManyIsRefused(Check check) {
        check.words("REFUSED if it has not 32 bytes (one more; it is empty, too)");
        refused(check, 33);
    }

    private static void anEmptyTapeIsRefused(Check check) {
        check.words("REFUSED if it has not 32 bytes (none; it is empty, too)");
        refused(check, 0);
        StreamSeal x = Scene.with(Bytes.mixed(19, 32));
        check.due("key() of 32", x.key(), 0);
        check.due("key() again, of the emptied TAPE", x.key(), StreamSeal.REFUSED);
        Scene.holds(check, "behind key() again", x, NOTHING, Scene.OUT, Bytes.mixed(19, 32), Scene.NONCE);
    }

    private static void anyOtherSizeIsRefused(Check check) {
        check.words("REFUSED if it has not 32 bytes (any other number; it is empty, too)");
        for (int size = 0; size <= 800; size++) {
            if (size != 32) {
                refused(check, size);
            }
        }
    }
}
