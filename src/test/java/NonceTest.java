/** Promise 6: nonce. */
public final class NonceTest {
    public static void main(String[] args) {
        Check check = new Check();
        bytesStandHighestFirst(check);
        fourBytesOfTheLowestAndHighest(check);
        eightBytesOfTheLowestAndHighest(check);
        anotherNonceTakesItsPlace(check);
        nothingElseChanges(check);
        check.end();
    }

    private static void nonceIs(Check check, int a, long b, String hex) {
        byte[] row = Bytes.mixed(20, 47);
        StreamSeal x = Scene.with(row);
        x.nonce(a, b);
        Scene.holds(check, "behind nonce(" + a + ", " + b + ")", x, row, Scene.OUT, Scene.KEY, Bytes.hex(hex));
    }

    private static void bytesStandHighestFirst(Check check) {
        check.words("Numbers in bytes: the highest first");
        nonceIs(check, 0x01020304, 0x05060708090a0b0cL, "01020304 05060708090a0b0c");
    }

    private static void fourBytesOfTheLowestAndHighest(Check check) {
        check.words("4 bytes a");
        nonceIs(check, 0, 0, "00000000 0000000000000000");
        nonceIs(check, 1, 0, "00000001 0000000000000000");
        nonceIs(check, -1, 0, "ffffffff 0000000000000000");
        nonceIs(check, Integer.MAX_VALUE, 0, "7fffffff 0000000000000000");
        nonceIs(check, Integer.MIN_VALUE, 0, "80000000 0000000000000000");
    }

    private static void eightBytesOfTheLowestAndHighest(Check check) {
        check.words("8 bytes b");
        nonceIs(check, 0, 1, "00000000 0000000000000001");
        nonceIs(check, 0, -1, "00000000 ffffffffffffffff");
        nonceIs(check, 0, -2, "00000000 fffffffffffffffe");
        nonceIs(check, 0, Long.MAX_VALUE, "00000000 7fffffffffffffff");
        nonceIs(check, 0, Long.MIN_VALUE, "00000000 8000000000000000");
        nonceIs(check, 0, 0x7fffffffL, "00000000 000000007fffffff");
        nonceIs(check, 0, 0x80000000L, "00000000 0000000080000000");
        nonceIs(check, 0, 0xffffffffL, "00000000 00000000ffffffff");
        nonceIs(check, 0, 0x100000000L, "00000000 0000000100000000");
        nonceIs(check, -1, 0xffffffffL, "ffffffff 00000000ffffffff");
    }

    private static void anotherNonceTakesItsPlace(Check check) {
        check.words("THE NONCE becomes 4 bytes a and 8 bytes b (each time)");
        StreamSeal x = new StreamSeal();
        x.nonce(-1, -1);
        x.nonce(0, 0);
        x.stream(1);
        check.due("stream behind nonce(0, 0)", Hands.out(x), Reference.stream(new byte[32], new byte[12], 1));
        x.nonce(1, 2);
        x.stream(1);
        check.due("stream behind nonce(1, 2)", Hands.out(x),
                Reference.stream(new byte[32], Bytes.hex("000000010000000000000002"), 1));
    }

    private static void nothingElseChanges(Check check) {
        check.words("THE NONCE becomes 4 bytes a and 8 bytes b (nothing else does)");
        int[] sizes = {0, 32, 800};
        for (int size : sizes) {
            byte[] row = Bytes.mixed(21, size);
            StreamSeal x = Scene.with(row);
            x.nonce(7, 8);
            Scene.holds(check, "behind nonce, TAPE of " + size, x, row, Scene.OUT, Scene.KEY,
                    Bytes.hex("000000070000000000000008"));
        }
    }
}
