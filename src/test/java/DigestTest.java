/** Promise 11: digest. */
public final class DigestTest {
    public static void main(String[] args) {
        Check check = new Check();
        theVectorsOfTheStandard(check);
        noBytes(check);
        edgesOfBlocks(check);
        everySize(check);
        keyAndNonceDoNotCount(check);
        outBecomesTheDigestAlone(check);
        check.end();
    }

    private static void theVectorsOfTheStandard(Check check) {
        check.words("H(x): SHA-256 of bytes: 32 bytes");
        vector(check, "", "e3b0c44298fc1c149afbf4c8996fb92427ae41e4649b934ca495991b7852b855");
        vector(check, "abc", "ba7816bf8f01cfea414140de5dae2223b00361a396177a9cb410ff61f20015ad");
        vector(check, "abcdbcdecdefdefgefghfghighijhijkijkljklmklmnlmnomnopnopq",
                "248d6a61d20638b8e5c026930c3e6039a33ce45964ff2167f6ecedd419db06c1");
    }

    private static void vector(Check check, String text, String digest) {
        StreamSeal x = new StreamSeal();
        Hands.put(x, Bytes.text(text));
        check.due("digest()", x.digest(), 32);
        check.due("octet(-1)", x.octet(-1), 32);
        check.due("H(" + text + ")", Hands.out(x), digest);
    }

    private static void digestIs(Check check, String name, byte[] row) {
        StreamSeal x = Scene.with(row);
        check.due("digest() of " + name, x.digest(), 32);
        check.due("H of " + name, Hands.out(x), Reference.digest(row));
    }

    private static void noBytes(Check check) {
        check.words("OUT becomes H(the TAPE) (the TAPE being empty)");
        digestIs(check, "nothing", new byte[0]);
        StreamSeal x = Scene.with(Bytes.mixed(38, 90));
        x.digest();
        check.due("digest() of the emptied TAPE", x.digest(), 32);
        check.due("H of the emptied TAPE", Hands.out(x), Reference.digest(new byte[0]));
    }

    /** Behind 55 bytes of a block there is just room for the 1 and the size; behind 56 there is not. */
    private static void edgesOfBlocks(Check check) {
        check.words("OUT becomes H(the TAPE) (of whole blocks and those about the edge of the last)");
        for (int block = 0; block <= 768; block += 64) {
            int[] more = {0, 1, 31, 32, 54, 55, 56, 57, 62, 63};
            for (int part : more) {
                int size = block + part;
                if (size <= 800) {
                    digestIs(check, size + " 0s", new byte[size]);
                    digestIs(check, size + " times 255", Bytes.repeat(255, size));
                }
            }
        }
    }

    private static void everySize(Check check) {
        check.words("OUT becomes H(the TAPE): 32");
        for (int size = 0; size <= 800; size++) {
            digestIs(check, size + " bytes", Bytes.mixed(size, size));
        }
    }

    private static void keyAndNonceDoNotCount(Check check) {
        check.words("OUT becomes H(the TAPE) (of nothing else)");
        byte[] row = Bytes.mixed(39, 70);
        StreamSeal x = new StreamSeal();
        Hands.put(x, row);
        x.digest();
        check.due("H with a key and a nonce of 0s", Hands.out(x), Reference.digest(row));
        digestIs(check, "70 bytes, with another key and nonce", row);
    }

    private static void outBecomesTheDigestAlone(Check check) {
        check.words("OUT becomes H(the TAPE): 32 (whatever it had)");
        byte[] row = Bytes.mixed(40, 90);
        StreamSeal x = Hands.made(Scene.KEY, Scene.NONCE, Bytes.mixed(41, 800));
        x.seal(0);
        Hands.put(x, row);
        check.due("digest() behind 816", x.digest(), 32);
        Scene.holds(check, "behind digest()", x, new byte[0], Reference.digest(row));
    }
}
