/** Promise 7: stream. */
public final class StreamTest {
    public static void main(String[] args) {
        Check check = new Check();
        theVectorsOfTheRfc(check);
        everyCounterOfThirtyTwoBits(check);
        theCounterWrapsWithoutTheNonce(check);
        outBecomesTheStreamAlone(check);
        nothingElseChanges(check);
        check.end();
    }

    private static void theVectorsOfTheRfc(Check check) {
        check.words("64 bytes by ChaCha20 (as in RFC 8439, by its block function)");
        byte[] rising = new byte[32];
        for (int i = 0; i < 32; i++) {
            rising[i] = (byte) i;
        }
        // RFC 8439, 2.3.2
        vector(check, rising, "000000090000004a00000000", 1,
                "10f1e7e4d13b5915500fdd1fa32071c4c7d1f4c733c068030422aa9ac3d46c4e"
                + "d2826446079faa0914c2d705d98b02a2b5129cd1de164eb9cbd083e8a2503c4e");
        // RFC 8439, A.1, test vectors 2 to 5
        vector(check, new byte[32], "000000000000000000000000", 1,
                "9f07e7be5551387a98ba977c732d080dcb0f29a048e3656912c6533e32ee7aed"
                + "29b721769ce64e43d57133b074d839d531ed1f28510afb45ace10a1f4b794d6f");
        byte[] lastOne = new byte[32];
        lastOne[31] = 1;
        vector(check, lastOne, "000000000000000000000000", 1,
                "3aeb5224ecf849929b9d828db1ced4dd832025e8018b8160b82284f3c949aa5a"
                + "8eca00bbb4a73bdad192b5c42f73f2fd4e273644c8b36125a64addeb006c13a0");
        byte[] secondFull = new byte[32];
        secondFull[1] = -1;
        vector(check, secondFull, "000000000000000000000000", 2,
                "72d54dfbf12ec44b362692df94137f328fea8da73990265ec1bbbea1ae9af0ca"
                + "13b25aa26cb4a648cb9b9d1be65b2c0924a66c54d545ec1b7374f4872e99f096");
        vector(check, new byte[32], "000000000000000000000002", 0,
                "c2c64d378cd536374ae204b9ef933fcd1a8b2288b3dfa49672ab765b54ee27c7"
                + "8a970e0e955c14f3a88e741b97c286f75f8fc299e8148362fa198a39531bed6d");
    }

    private static void vector(Check check, byte[] key, String nonce, int counter, String stream) {
        StreamSeal x = Hands.made(key, Bytes.hex(nonce));
        check.due("stream(" + counter + ")", x.stream(counter), 64);
        check.due("octet(-1)", x.octet(-1), 64);
        check.due("stream(" + counter + ") of nonce " + nonce, Hands.out(x), stream);
    }

    private static void everyCounterOfThirtyTwoBits(Check check) {
        check.words("the STREAM of c (32 bits)");
        int[] counters = {0, 1, 2, 255, 256, 65535, 65536, Integer.MAX_VALUE, Integer.MIN_VALUE, -1, -2};
        for (int counter : counters) {
            StreamSeal x = Scene.with(new byte[0]);
            check.due("stream(" + counter + ")", x.stream(counter), 64);
            check.due("OUT of stream(" + counter + ")", Hands.out(x),
                    Reference.stream(Scene.KEY, Scene.NONCE, counter));
        }
    }

    /** The highest counter is -1; 0 comes behind it, and no bit of it goes over to THE NONCE. */
    private static void theCounterWrapsWithoutTheNonce(Check check) {
        check.words("the STREAM of c (32 bits: behind the highest comes 0)");
        StreamSeal x = Scene.with(new byte[0]);
        for (int counter = -2; counter <= 2; counter++) {
            check.due("stream(" + counter + ") in a row", x.stream(counter), 64);
            check.due("OUT of stream(" + counter + ") in a row", Hands.out(x),
                    Reference.stream(Scene.KEY, Scene.NONCE, counter));
        }
    }

    private static void outBecomesTheStreamAlone(Check check) {
        check.words("OUT becomes the STREAM of c: 64 (whatever it had)");
        byte[] want = Reference.stream(Scene.KEY, Scene.NONCE, 1);
        StreamSeal x = Hands.made(Scene.KEY, Scene.NONCE, Bytes.mixed(22, 800));
        x.seal(0);
        check.due("stream(1) behind 816", x.stream(1), 64);
        Scene.outIs(check, "behind 816", x, want);
        x.sum();
        check.due("stream(1) behind 16", x.stream(1), 64);
        Scene.outIs(check, "behind 16", x, want);
        check.due("stream(1) behind itself", x.stream(1), 64);
        Scene.outIs(check, "behind itself", x, want);
    }

    private static void nothingElseChanges(Check check) {
        check.words("OUT becomes the STREAM of c (nothing else does)");
        int[] sizes = {0, 1, 32, 51, 800};
        for (int size : sizes) {
            byte[] row = Bytes.mixed(23, size);
            StreamSeal x = Scene.with(row);
            x.stream(1);
            Scene.holds(check, "behind stream(1), TAPE of " + size, x, row,
                    Reference.stream(Scene.KEY, Scene.NONCE, 1));
        }
    }
}
