/** Promise 13: octet. */
public final class OctetTest {
    private static final byte[] NOTHING = new byte[0];
    /** Sizes that OUT can have; a seal of 16 bytes less makes each. */
    private static final int[] SIZES = {16, 17, 32, 64, 255, 256, 799, 800, 801, 815, 816};

    public static void main(String[] args) {
        Check check = new Check();
        byteKOfOut(check);
        bytesAreNeverNegative(check);
        everyByteOfALongOut(check);
        howMany(check);
        howManyOfNone(check);
        theLastByteIsThere(check);
        noneRightBehindTheLast(check);
        noneFarBehindTheLast(check);
        noneBelowMinusOne(check);
        noneOfAnEmptyOut(check);
        noneWhereAnEarlierOutHadBytes(check);
        nothingChanges(check);
        check.end();
    }

    /** OUT has the size then, at least 16, and is the seal of the row of 16 less. */
    private static StreamSeal withOut(int size) {
        StreamSeal x = Hands.made(Scene.KEY, Scene.NONCE, Bytes.mixed(43, size - 16));
        x.seal(0);
        return x;
    }

    private static byte[] outOf(int size) {
        return Reference.seal(Scene.KEY, Scene.NONCE, NOTHING, Bytes.mixed(43, size - 16));
    }

    private static void byteKOfOut(Check check) {
        check.words("Byte k of OUT");
        StreamSeal x = Scene.with(NOTHING);
        for (int k = 63; k >= 0; k--) {
            check.due("octet(" + k + ")", x.octet(k), Scene.OUT[k] & 255);
        }
        for (int k = 0; k < 64; k++) {
            check.due("octet(" + k + ") again", x.octet(k), Scene.OUT[k] & 255);
        }
    }

    /** Every value that a byte has, brought to OUT by an open. */
    private static void bytesAreNeverNegative(Check check) {
        check.words("Byte k of OUT (0 to 255)");
        byte[] row = new byte[256];
        for (int i = 0; i < 256; i++) {
            row[i] = (byte) i;
        }
        StreamSeal x = Hands.made(Scene.KEY, Scene.NONCE,
                Reference.seal(Scene.KEY, Scene.NONCE, NOTHING, row));
        check.due("open(0)", x.open(0), 256);
        for (int i = 0; i < 256; i++) {
            check.due("octet(" + i + ")", x.octet(i), i);
        }
    }

    private static void everyByteOfALongOut(Check check) {
        check.words("Byte k of OUT (OUT having 816)");
        byte[] want = outOf(816);
        for (int from = 0; from < 816; from += 408) {
            StreamSeal x = withOut(816);
            for (int k = from; k < from + 408; k++) {
                check.due("octet(" + k + ") of 816", x.octet(k), want[k] & 255);
            }
        }
    }

    private static void howMany(Check check) {
        check.words("for k -1 how many");
        for (int size : SIZES) {
            check.due("octet(-1) of " + size, withOut(size).octet(-1), size);
        }
        StreamSeal x = new StreamSeal();
        x.stream(1);
        check.due("octet(-1) of a stream", x.octet(-1), 64);
        x.sum();
        check.due("octet(-1) of a sum", x.octet(-1), 16);
        x.digest();
        check.due("octet(-1) of a digest", x.octet(-1), 32);
        x.stream(1);
        x.mac();
        check.due("octet(-1) of a mac", x.octet(-1), 32);
    }

    private static void howManyOfNone(Check check) {
        check.words("for k -1 how many (none: 0)");
        check.due("octet(-1) at first", new StreamSeal().octet(-1), 0);
        StreamSeal x = Scene.with(Reference.seal(Scene.KEY, Scene.NONCE, NOTHING, NOTHING));
        check.due("open(0) of an empty seal", x.open(0), 0);
        check.due("octet(-1) of nothing opened", x.octet(-1), 0);
    }

    private static void theLastByteIsThere(Check check) {
        check.words("NONE if there is none (the first and the last byte are there)");
        for (int size : SIZES) {
            StreamSeal x = withOut(size);
            check.due("octet(0) of " + size, x.octet(0), outOf(size)[0] & 255);
            check.due("octet(" + (size - 1) + ") of " + size, x.octet(size - 1), outOf(size)[size - 1] & 255);
        }
    }

    private static void noneRightBehindTheLast(Check check) {
        check.words("NONE if there is none (k being as many as OUT has)");
        for (int size : SIZES) {
            check.due("octet(" + size + ") of " + size, withOut(size).octet(size), StreamSeal.NONE);
        }
    }

    private static void noneFarBehindTheLast(Check check) {
        check.words("NONE if there is none (k being higher still)");
        for (int size : SIZES) {
            int[] higher = {size + 1, 817, 1000, 65536, Integer.MAX_VALUE - 1, Integer.MAX_VALUE};
            for (int k : higher) {
                check.due("octet(" + k + ") of " + size, withOut(size).octet(k), StreamSeal.NONE);
            }
        }
    }

    private static void noneBelowMinusOne(Check check) {
        check.words("NONE if there is none (k being below -1)");
        for (int size : SIZES) {
            int[] below = {-2, -3, -16, -size, -size - 1, Integer.MIN_VALUE + 1, Integer.MIN_VALUE};
            for (int k : below) {
                check.due("octet(" + k + ") of " + size, withOut(size).octet(k), StreamSeal.NONE);
            }
        }
    }

    private static void noneOfAnEmptyOut(Check check) {
        check.words("NONE if there is none (OUT being empty)");
        int[] any = {0, 1, 15, 63, 815, 816, Integer.MAX_VALUE, -2, -3, Integer.MIN_VALUE};
        StreamSeal opened = Scene.with(Reference.seal(Scene.KEY, Scene.NONCE, NOTHING, NOTHING));
        check.due("open(0) of an empty seal", opened.open(0), 0);
        for (int k : any) {
            check.due("octet(" + k + ") at first", new StreamSeal().octet(k), StreamSeal.NONE);
            check.due("octet(" + k + ") of nothing opened", opened.octet(k), StreamSeal.NONE);
        }
    }

    private static void noneWhereAnEarlierOutHadBytes(Check check) {
        check.words("NONE if there is none (an earlier OUT having had it)");
        StreamSeal x = withOut(816);
        x.stream(1);
        check.due("octet(64) of a stream", x.octet(64), StreamSeal.NONE);
        check.due("octet(815) of a stream", x.octet(815), StreamSeal.NONE);
        x.mac();
        check.due("octet(32) of a mac", x.octet(32), StreamSeal.NONE);
        check.due("octet(63) of a mac", x.octet(63), StreamSeal.NONE);
        x.stream(1);
        x.digest();
        check.due("octet(32) of a digest", x.octet(32), StreamSeal.NONE);
        check.due("octet(63) of a digest", x.octet(63), StreamSeal.NONE);
        x.sum();
        check.due("octet(16) of a sum", x.octet(16), StreamSeal.NONE);
        check.due("octet(31) of a sum", x.octet(31), StreamSeal.NONE);
    }

    private static void nothingChanges(Check check) {
        check.words("Byte k of OUT (nothing changes)");
        byte[] row = Bytes.mixed(44, 50);
        StreamSeal x = Scene.with(row);
        int[] any = {0, 63, 64, -1, -2, Integer.MAX_VALUE, Integer.MIN_VALUE};
        for (int k : any) {
            x.octet(k);
        }
        Scene.holds(check, "behind octets", x, row, Scene.OUT);
    }
}
