import java.util.Arrays;

/** Promise 9: seal, and the term SEAL. */
public final class SealTest {
    private static final byte[] KEY = Scene.KEY;
    private static final byte[] NONCE = Scene.NONCE;
    private static final byte[] NOTHING = new byte[0];
    private static final int[] SIZES = {0, 1, 15, 16, 17, 35, 799, 800};

    public static void main(String[] args) {
        Check check = new Check();
        theVectorOfTheRfc(check);
        byTheWordsThemselves(check);
        edgesOfTheStreams(check);
        edgesOfTheHeadsZeros(check);
        edgesOfTheBodysZeros(check);
        sizesOfMoreThanAByte(check);
        edgesOfAllTogether(check);
        nothingIsSealed(check);
        noHead(check);
        allOfItIsHead(check);
        aFullTape(check);
        oneMoreThanItHasIsRefused(check);
        anyMoreThanItHasIsRefused(check);
        belowZeroIsRefused(check);
        outBecomesTheSealAlone(check);
        check.end();
    }

    private static void theVectorOfTheRfc(Check check) {
        check.words("OUT becomes SEAL(the first n bytes of the TAPE, all others): how many bytes");
        // RFC 8439, 2.8.2
        byte[] key = new byte[32];
        for (int i = 0; i < 32; i++) {
            key[i] = (byte) (128 + i);
        }
        byte[] head = Bytes.hex("50515253c0c1c2c3c4c5c6c7");
        byte[] body = Bytes.text("Ladies and Gentlemen of the class of '99: "
                + "If I could offer you only one tip for the future, sunscreen would be it.");
        StreamSeal x = Hands.made(key, Bytes.hex("070000004041424344454647"), Bytes.join(head, body));
        check.due("seal(12)", x.seal(12), 130);
        check.due("OUT of seal(12)", Hands.out(x),
                "d31a8d34648e60db7b86afbc53ef7ec2a4aded51296e08fea9e2b5a736ee62d6"
                + "3dbea45e8ca9671282fafb69da92728b1a71de0a9e060b2905d6a5b67ecd3b36"
                + "92ddbd7f2d778b8c9803aee328091b58fab324e4fad675945585808b4831d7bc"
                + "3ff4def08e4b7a9de576d26586cec64b6116"
                + "1ae10b594f09e26a7e902ecbd0600691");
    }

    private static byte[] zerosBehind(byte[] row) {
        return new byte[(16 - row.length % 16) % 16];
    }

    private static byte[] sizeOf(byte[] row) {
        return new byte[] {(byte) row.length, (byte) (row.length >> 8), 0, 0, 0, 0, 0, 0};
    }

    private static byte[] sealByWords(byte[] head, byte[] body) {
        byte[] sealed = body.clone();
        for (int i = 0; i < body.length; i++) {
            sealed[i] ^= Reference.stream(KEY, NONCE, 1 + i / 64)[i % 64];
        }
        byte[] summed = Bytes.join(head, zerosBehind(head), sealed, zerosBehind(sealed),
                sizeOf(head), sizeOf(sealed));
        return Bytes.join(sealed, Reference.sum(Arrays.copyOf(Reference.stream(KEY, NONCE, 0), 32), summed));
    }

    /** The library's cipher is what the document says, if it agrees with STREAM and SUM alone. */
    private static void byTheWordsThemselves(Check check) {
        check.words("SEAL(a, x) of bytes a and x: C T");
        int[] sizes = {0, 1, 16, 17, 64, 65, 260};
        for (int head : sizes) {
            for (int body : sizes) {
                byte[] a = Bytes.mixed(60, head);
                byte[] x = Bytes.mixed(61, body);
                check.due("SEAL of " + head + " and " + body, Reference.seal(KEY, NONCE, a, x), sealByWords(a, x));
            }
        }
    }

    /** Looks at OUT through several objects, so that none has more calls than are promised. */
    private static void sealed(Check check, int head, int body) {
        byte[] row = Bytes.mixed(head * 801 + body, head + body);
        byte[] want = Reference.seal(KEY, NONCE, Arrays.copyOf(row, head),
                Arrays.copyOfRange(row, head, head + body));
        String name = "seal(" + head + ") of " + (head + body);
        for (int from = 0; from < want.length; from += 400) {
            int to = Math.min(from + 400, want.length);
            StreamSeal x = Hands.made(KEY, NONCE, row);
            check.due(name, x.seal(head), want.length);
            check.due("octet(-1) behind " + name, x.octet(-1), want.length);
            check.due("OUT from " + from + " of " + name, Hands.out(x, from, to),
                    Arrays.copyOfRange(want, from, to));
        }
    }

    private static void edgesOfTheStreams(Check check) {
        check.words("each byte of x by exclusive or with the byte of its place in the STREAMS of 1, 2, ..");
        for (int block = 64; block <= 768; block += 64) {
            sealed(check, 0, block - 1);
            sealed(check, 0, block);
            sealed(check, 0, block + 1);
        }
    }

    private static void edgesOfTheHeadsZeros(Check check) {
        check.words("a, 0s up to a multiple of 16");
        for (int head = 0; head <= 49; head++) {
            sealed(check, head, 0);
            sealed(check, head, 16);
            sealed(check, head, 3);
        }
    }

    private static void edgesOfTheBodysZeros(Check check) {
        check.words("C, 0s up to one");
        for (int body = 0; body <= 49; body++) {
            sealed(check, 0, body);
            sealed(check, 16, body);
            sealed(check, 3, body);
        }
    }

    private static void sizesOfMoreThanAByte(Check check) {
        check.words("8 bytes how many a has, 8 bytes how many C has (these two with the lowest byte first)");
        int[] sizes = {0, 1, 127, 128, 255, 256, 257, 511, 512, 513, 767, 768, 769, 799, 800};
        for (int size : sizes) {
            sealed(check, size, 0);
            sealed(check, 0, size);
        }
        sealed(check, 1, 256);
        sealed(check, 256, 1);
        sealed(check, 257, 512);
        sealed(check, 512, 257);
    }

    private static void edgesOfAllTogether(Check check) {
        check.words("OUT becomes SEAL(the first n bytes of the TAPE, all others): how many bytes");
        int[] sizes = {0, 1, 15, 16, 17, 31, 32, 63, 64, 65, 127, 128, 129, 255, 256, 400, 784, 785, 799, 800};
        for (int head : sizes) {
            for (int body : sizes) {
                if (head + body <= 800) {
                    sealed(check, head, body);
                }
            }
        }
    }

    private static void holdsSeal(Check check, byte[] row, int n) {
        StreamSeal x = Scene.with(row);
        String name = "seal(" + n + ") of " + row.length;
        check.due(name, x.seal(n), row.length - n + 16);
        Scene.holds(check, "behind " + name, x, NOTHING,
                Reference.seal(KEY, NONCE, Arrays.copyOf(row, n), Arrays.copyOfRange(row, n, row.length)));
    }

    private static void nothingIsSealed(Check check) {
        check.words("SEAL(the first n bytes of the TAPE, all others) (the TAPE being empty)");
        holdsSeal(check, NOTHING, 0);
        StreamSeal x = Scene.with(Bytes.mixed(29, 70));
        x.seal(30);
        check.due("seal(0) of the emptied TAPE", x.seal(0), 16);
        check.due("OUT of seal(0) of the emptied TAPE", Hands.out(x), Reference.seal(KEY, NONCE, NOTHING, NOTHING));
    }

    private static void noHead(Check check) {
        check.words("SEAL(the first n bytes of the TAPE, all others) (n being 0)");
        for (int size : SIZES) {
            holdsSeal(check, Bytes.mixed(30, size), 0);
        }
    }

    private static void allOfItIsHead(Check check) {
        check.words("SEAL(the first n bytes of the TAPE, all others) (no others)");
        for (int size : SIZES) {
            holdsSeal(check, Bytes.mixed(31, size), size);
        }
    }

    private static void aFullTape(Check check) {
        check.words("SEAL(the first n bytes of the TAPE, all others) (the TAPE having 800)");
        int[] heads = {0, 1, 16, 399, 400, 784, 799, 800};
        for (int n : heads) {
            holdsSeal(check, Bytes.mixed(32, 800), n);
            sealed(check, n, 800 - n);
        }
    }

    private static void refused(Check check, int size, int n) {
        byte[] row = Bytes.mixed(33, size);
        StreamSeal x = Scene.with(row);
        check.due("seal(" + n + ") of " + size, x.seal(n), StreamSeal.REFUSED);
        Scene.holds(check, "behind seal(" + n + ") of " + size, x, row, Scene.OUT);
    }

    private static void oneMoreThanItHasIsRefused(Check check) {
        check.words("REFUSED if it has less than n (by one)");
        for (int size : SIZES) {
            refused(check, size, size + 1);
        }
    }

    private static void anyMoreThanItHasIsRefused(Check check) {
        check.words("REFUSED if it has less than n (by any number)");
        for (int size : SIZES) {
            refused(check, size, size + 16);
            refused(check, size, 801);
            refused(check, size, Integer.MAX_VALUE - 15);
            refused(check, size, Integer.MAX_VALUE);
        }
    }

    private static void belowZeroIsRefused(Check check) {
        check.words("REFUSED if .. n is below 0");
        for (int size : SIZES) {
            refused(check, size, -1);
            refused(check, size, -16);
            refused(check, size, -17);
            refused(check, size, Integer.MIN_VALUE);
        }
    }

    private static void outBecomesTheSealAlone(Check check) {
        check.words("OUT becomes SEAL (whatever it had)");
        byte[] row = Bytes.mixed(34, 20);
        StreamSeal x = Hands.made(KEY, NONCE, Bytes.mixed(35, 800));
        x.seal(0);
        Hands.put(x, row);
        check.due("seal(20) behind 816", x.seal(20), 16);
        Scene.holds(check, "behind seal(20)", x, NOTHING, Reference.seal(KEY, NONCE, row, NOTHING));
    }
}
