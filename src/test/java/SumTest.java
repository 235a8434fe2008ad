import java.math.BigInteger;
import java.util.Arrays;
import java.util.Random;

/** Promise 8: sum. */
public final class SumTest {
    public static void main(String[] args) {
        Check check = new Check();
        theVectorsOfTheRfc(check);
        noBytes(check);
        wholeAndShortBlocks(check);
        everySize(check);
        bitsOfTheKeyThatDoNotCount(check);
        numbersNearThePrime(check);
        totalsNearTheirEdges(check);
        theLastAdditionWrapsAround(check);
        theNonceDoesNotCount(check);
        outBecomesTheSumAlone(check);
        check.end();
    }

    private static void vector(Check check, String key, byte[] row, String sum) {
        StreamSeal x = Hands.made(Bytes.hex(key), new byte[12], row);
        check.due("sum()", x.sum(), 16);
        check.due("octet(-1)", x.octet(-1), 16);
        check.due("sum() of key " + key, Hands.out(x), sum);
        check.due("the reference for key " + key, Reference.sum(Bytes.hex(key), row), sum);
    }

    private static void theVectorsOfTheRfc(Check check) {
        check.words("16 bytes by Poly1305 (as there, k being its key)");
        String zeros = "00000000000000000000000000000000";
        String ones = "ffffffffffffffffffffffffffffffff";
        String one = "01000000000000000000000000000000";
        String two = "02000000000000000000000000000000";
        // RFC 8439, 2.5.2
        vector(check, "85d6be7857556d337f4452fe42d506a80103808afb0db2fd4abff6af4149f51b",
                Bytes.text("Cryptographic Forum Research Group"), "a8061dc1305136c6c22b8baf0c0127a9");
        // RFC 8439, A.3, test vectors 1 and 7 to 11
        vector(check, zeros + zeros, new byte[64], zeros);
        vector(check, two + zeros, Bytes.hex(ones), "03000000000000000000000000000000");
        vector(check, two + ones, Bytes.hex(two), "03000000000000000000000000000000");
        vector(check, one + zeros,
                Bytes.hex(ones + "f0ffffffffffffffffffffffffffffff" + "11000000000000000000000000000000"),
                "05000000000000000000000000000000");
        vector(check, one + zeros,
                Bytes.hex(ones + "fbfefefefefefefefefefefefefefefe" + "01010101010101010101010101010101"),
                zeros);
        vector(check, two + zeros, Bytes.hex("fdffffffffffffffffffffffffffffff"),
                "faffffffffffffffffffffffffffffff");
        vector(check, "01000000000000000400000000000000" + zeros, Bytes.hex(
                "e33594d7505e43b900000000000000003394d7505e4379cd01000000000000000000000000000000"
                + "000000000000000001000000000000000000000000000000"), "14000000000000005500000000000000");
        vector(check, "01000000000000000400000000000000" + zeros, Bytes.hex(
                "e33594d7505e43b900000000000000003394d7505e4379cd010000000000000000000000000000000000000000000000"),
                "13000000000000000000000000000000");
    }

    private static void sumIs(Check check, String name, byte[] key, byte[] row) {
        StreamSeal x = Hands.made(key, Scene.NONCE, row);
        check.due("sum() of " + name, x.sum(), 16);
        check.due("OUT of sum() of " + name, Hands.out(x), Reference.sum(key, row));
    }

    /** The sum of nothing is the key's second half. */
    private static void noBytes(Check check) {
        check.words("SUM(THE KEY, the TAPE) (the TAPE being empty)");
        StreamSeal x = Scene.with(new byte[0]);
        check.due("sum() of nothing", x.sum(), 16);
        Scene.holds(check, "behind sum() of nothing", x, new byte[0], Arrays.copyOfRange(Scene.KEY, 16, 32));
        StreamSeal y = Scene.with(Bytes.mixed(25, 100));
        y.sum();
        check.due("sum() of the emptied TAPE", y.sum(), 16);
        check.due("OUT of sum() of the emptied TAPE", Hands.out(y), Arrays.copyOfRange(Scene.KEY, 16, 32));
    }

    /** A short last block is not the same as one with 0s behind it. */
    private static void wholeAndShortBlocks(Check check) {
        check.words("SUM(THE KEY, the TAPE) (of whole blocks, one byte less, one byte more, and 0s)");
        int[] sizes = {1, 15, 16, 17, 31, 32, 33, 47, 48, 49, 783, 784, 785, 799, 800};
        for (int size : sizes) {
            sumIs(check, size + " bytes", Scene.KEY, Bytes.mixed(26, size));
            sumIs(check, size + " 0s", Scene.KEY, new byte[size]);
            sumIs(check, size + " times 255", Scene.KEY, Bytes.repeat(255, size));
        }
    }

    private static void everySize(Check check) {
        check.words("SUM(THE KEY, the TAPE): 16");
        for (int size = 0; size <= 800; size++) {
            byte[] key = Bytes.mixed(size, 32);
            byte[] row = Bytes.mixed(size + 1000, size);
            StreamSeal x = Hands.made(key, new byte[12], row);
            check.due("sum() of " + size, x.sum(), 16);
            check.due("OUT of sum() of " + size, Hands.out(x), Reference.sum(key, row));
        }
    }

    private static void bitsOfTheKeyThatDoNotCount(Check check) {
        check.words("k being its key (whose first half has bits that are cleared)");
        byte[] row = Bytes.mixed(27, 40);
        for (int bit = 0; bit < 256; bit++) {
            byte[] key = Scene.KEY.clone();
            key[bit / 8] ^= (byte) (1 << bit % 8);
            sumIs(check, "a key with bit " + bit + " changed", key, row);
        }
        sumIs(check, "a key of 255s", Bytes.repeat(255, 32), row);
        sumIs(check, "a key of 0s", new byte[32], row);
    }

    private static void numbersNearThePrime(Check check) {
        check.words("16 bytes by Poly1305 (near its prime)");
        for (int factor = 0; factor < 256; factor++) {
            for (int lowest = 0xf0; lowest < 256; lowest++) {
                byte[] key = Bytes.repeat(255, 32);
                if (factor < 255) {
                    System.arraycopy(new byte[16], 0, key, 0, 16);
                    key[0] = (byte) factor;
                }
                byte[] row = Bytes.repeat(255, 48);
                row[32] = (byte) lowest;
                StreamSeal x = Hands.made(key, new byte[12], row);
                x.sum();
                check.due("sum() near the prime, " + factor + " " + lowest, Hands.out(x), Reference.sum(key, row));
            }
        }
    }

    /**
     * Totals just where bits are carried from one part of a number to the next, or the prime is taken
     * off: runs of other tests would hardly ever come to one, so the block is solved for here.
     */
    private static void totalsNearTheirEdges(Check check) {
        check.words("16 bytes by Poly1305 (where bits are carried)");
        Random random = new Random(8);
        int[] bits = {0, 24, 26, 32, 52, 64, 78, 96, 104, 128, 130};
        for (int bit : bits) {
            for (int times = 1; times <= 16; times++) {
                for (int off = -7; off <= 7; off++) {
                    BigInteger edge = BigInteger.valueOf(times).shiftLeft(bit).add(BigInteger.valueOf(off));
                    totalOf(check, random, edge.mod(Reference.PRIME));
                }
            }
        }
    }

    private static void totalOf(Check check, Random random, BigInteger total) {
        for (int i = 0; i < 100; i++) {
            byte[] key = new byte[32];
            random.nextBytes(key);
            BigInteger block = total.multiply(Reference.factor(key).modInverse(Reference.PRIME))
                    .mod(Reference.PRIME);
            // Only a number with the bit that is set behind 16 bytes, and none above it, is a block.
            if (block.bitLength() == 129) {
                byte[] row = Reference.lowestFirst(block, 16);
                StreamSeal x = Hands.made(key, new byte[12], row);
                x.sum();
                check.due("sum() of total " + total, Hands.out(x), Reference.sum(key, row));
                return;
            }
        }
    }

    private static void theLastAdditionWrapsAround(Check check) {
        check.words("16 bytes by Poly1305 (whose last addition keeps 128 bits)");
        byte[] key = Bytes.join(Bytes.mixed(28, 16), Bytes.repeat(255, 16));
        for (int size = 0; size <= 33; size++) {
            sumIs(check, size + " bytes and the highest second half", key, Bytes.mixed(29, size));
        }
        // Factor 1 and a block of 1 make a total of 2^128 + 1: its own highest bit goes, too.
        byte[] one = Bytes.hex("01000000000000000000000000000000");
        StreamSeal x = Hands.made(Bytes.join(one, Bytes.repeat(255, 16)), new byte[12], one);
        x.sum();
        check.due("OUT of a sum that wraps around to 0", Hands.out(x), new byte[16]);
    }

    private static void theNonceDoesNotCount(Check check) {
        check.words("SUM(THE KEY, the TAPE) (not of THE NONCE)");
        byte[] row = Bytes.mixed(30, 50);
        StreamSeal x = Scene.with(row);
        x.nonce(-1, -1);
        x.sum();
        check.due("OUT of sum() with another nonce", Hands.out(x), Reference.sum(Scene.KEY, row));
    }

    private static void outBecomesTheSumAlone(Check check) {
        check.words("OUT becomes SUM(THE KEY, the TAPE): 16 (whatever it had)");
        byte[] row = Bytes.mixed(31, 100);
        StreamSeal x = Hands.made(Scene.KEY, Scene.NONCE, Bytes.mixed(32, 800));
        x.seal(0);
        Hands.put(x, row);
        check.due("sum() behind 816", x.sum(), 16);
        Scene.holds(check, "behind sum()", x, new byte[0], Reference.sum(Scene.KEY, row));
    }
}
