/** Promise 7: stream. */
public final class StreamTest {
    public static void main(String[] args) {
        Check check = new Check();
        theVectorsOfTheRfc(check);
        everyCounterOfThirtyTwoBits(check);
        theTapeStays(check);
        check.end();
    }

    private static void theVectorsOfTheRfc(Check check) {
        byte[] rising = new byte[32];
        for (int i = 0; i < 32; i++) {
            rising[i] = (byte) i;
        }
        // RFC 8439, 2.3.2
        vector(check, rising, "000000090000004a00000000", 1,
                "10f1e7e4d13b5915500fdd1fa32071c4c7d1f4c733c068030422aa9ac3d46c4e"
                + "d2826446079faa0914c2d705d98b02a2b5129cd1de164eb9cbd083e8a2503c4e");
        // RFC 8439, A.1, test vectors 2 to 5
        vector(check, new byte[32], "000000000000000000000000", 1,
                "9f07e7be5551387a98ba977c732d080dcb0f29a048e3656912c6533e32ee7aed"
                + "29b721769ce64e43d57133b074d839d531ed1f28510afb45ace10a1f4b794d6f");
        byte[] lastOne = new byte[32];
        lastOne[31] = 1;
        vector(check, lastOne, "000000000000000000000000", 1,
                "3aeb5224ecf849929b9d828db1ced4dd832025e8018b8160b82284f3c949aa5a"
                + "8eca00bbb4a73bdad192b5c42f73f2fd4e273644c8b36125a64addeb006c13a0");
        byte[] secondFull = new byte[32];
        secondFull[1] = -1;
        vector(check, secondFull, "000000000000000000000000", 2,
                "72d54dfbf12ec44b362692df94137f328fea8da73990265ec1bbbea1ae9af0ca"
                + "13b25aa26cb4a648cb9b9d1be65b2c0924a66c54d545ec1b7374f4872e99f096");
        vector(check, new byte[32], "000000000000000000000002", 0,
                "c2c64d378cd536374ae204b9ef933fcd1a8b2288b3dfa49672ab765b54ee27c7"
                + "8a970e0e955c14f3a88e741b97c286f75f8fc299e8148362fa198a39531bed6d");
    }

    private static void vector(Check check, byte[] key, String nonce, int counter, String stream) {
        StreamSeal x = Hands.made(key, Bytes.hex(nonce));
        check.due("stream(" + counter + ")", x.stream(counter), 64);
        check.due("octet(-1)", x.octet(-1), 64);
        check.due("stream(" + counter + ") of nonce " + nonce, Hands.out(x), stream);
    }

    private static void everyCounterOfThirtyTwoBits(Check check) {
        byte[] key = Bytes.mixed(21, 32);
        byte[] nonce = Bytes.mixed(22, 12);
        int[] counters = {0, 1, 255, 256, 65536, Integer.MAX_VALUE, Integer.MIN_VALUE, -1, -2};
        for (int counter : counters) {
            StreamSeal x = Hands.made(key, nonce);
            check.due("stream(" + counter + ")", x.stream(counter), 64);
            check.due("OUT of stream(" + counter + ")", Hands.out(x), Reference.stream(key, nonce, counter));
        }
    }

    private static void theTapeStays(Check check) {
        byte[] row = Bytes.mixed(23, 51);
        StreamSeal x = new StreamSeal();
        Hands.put(x, row);
        x.stream(1);
        check.due("end(51) behind stream", x.end(51), 51);
        x.digest();
        check.due("H behind stream", Hands.out(x), Reference.digest(row));
    }
}
