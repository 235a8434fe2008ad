import java.util.Arrays;

/** Promise 12: mac. */
public final class MacTest {
    public static void main(String[] args) {
        Check check = new Check();
        theVectorsOfTheRfc(check);
        byTheWordsThemselves(check);
        noBytes(check);
        edgesOfBlocks(check);
        everySize(check);
        keysOfLowestAndHighestBytes(check);
        theNonceDoesNotCount(check);
        outBecomesTheMacAlone(check);
        check.end();
    }

    /** RFC 4231, cases 1 to 4: their shorter keys are the same keys with 0s behind them. */
    private static void theVectorsOfTheRfc(Check check) {
        check.words("OUT becomes H(k' H(k\" the TAPE)): 32");
        vector(check, Bytes.repeat(0x0b, 20), Bytes.text("Hi There"),
                "b0344c61d8db38535ca8afceaf0bf12b881dc200c9833da726e9376c2e32cff7");
        vector(check, Bytes.text("Jefe"), Bytes.text("what do ya want for nothing?"),
                "5bdcc146bf60754e6a042426089575c75a003f089d2739839dec58b964ec3843");
        vector(check, Bytes.repeat(0xaa, 20), Bytes.repeat(0xdd, 50),
                "773ea91e36800e46854db8ebd09181a72959098b3ef8c122d9635514ced565fe");
        vector(check, Bytes.hex("0102030405060708090a0b0c0d0e0f10111213141516171819"), Bytes.repeat(0xcd, 50),
                "82558a389a443c0ea4cc819899f2083a85f0faa3e578f8077a2e3ff46729665b");
    }

    private static void vector(Check check, byte[] key, byte[] row, String mac) {
        StreamSeal x = Hands.made(Arrays.copyOf(key, 32), new byte[12], row);
        check.due("mac()", x.mac(), 32);
        check.due("octet(-1)", x.octet(-1), 32);
        check.due("mac() of " + row.length + " bytes", Hands.out(x), mac);
    }

    private static byte[] masked(byte[] key, int mask) {
        byte[] row = Arrays.copyOf(key, 64);
        for (int i = 0; i < 64; i++) {
            row[i] ^= (byte) mask;
        }
        return row;
    }

    /** The library's HMAC is what the document says, if it agrees with H alone. */
    private static void byTheWordsThemselves(Check check) {
        check.words("k\" being THE KEY and 32 bytes 0, each byte with 54 by exclusive or, k' the same with 92");
        int[] sizes = {0, 1, 63, 64, 65, 800};
        for (int size : sizes) {
            byte[] row = Bytes.mixed(40, size);
            byte[] inner = Reference.digest(Bytes.join(masked(Scene.KEY, 54), row));
            StreamSeal x = Scene.with(row);
            x.mac();
            check.due("mac() of " + size + ", by H", Hands.out(x),
                    Reference.digest(Bytes.join(masked(Scene.KEY, 92), inner)));
        }
    }

    private static void macIs(Check check, String name, byte[] key, byte[] row) {
        StreamSeal x = Hands.made(key, Scene.NONCE, row);
        check.due("mac() of " + name, x.mac(), 32);
        check.due("OUT of mac() of " + name, Hands.out(x), Reference.mac(key, row));
    }

    private static void noBytes(Check check) {
        check.words("OUT becomes H(k' H(k\" the TAPE)) (the TAPE being empty)");
        macIs(check, "nothing", Scene.KEY, new byte[0]);
        StreamSeal x = Scene.with(Bytes.mixed(42, 90));
        x.mac();
        check.due("mac() of the emptied TAPE", x.mac(), 32);
        check.due("OUT of mac() of the emptied TAPE", Hands.out(x), Reference.mac(Scene.KEY, new byte[0]));
    }

    private static void edgesOfBlocks(Check check) {
        check.words("OUT becomes H(k' H(k\" the TAPE)) (of whole blocks and those about the edge of the last)");
        int[] sizes = {1, 54, 55, 56, 57, 63, 64, 65, 119, 120, 127, 128, 129, 759, 760, 767, 768, 769, 799, 800};
        for (int size : sizes) {
            macIs(check, size + " 0s", Scene.KEY, new byte[size]);
            macIs(check, size + " times 255", Scene.KEY, Bytes.repeat(255, size));
        }
    }

    private static void everySize(Check check) {
        check.words("OUT becomes H(k' H(k\" the TAPE)): 32");
        for (int size = 0; size <= 800; size++) {
            macIs(check, size + " bytes", Bytes.mixed(size + 1, 32), Bytes.mixed(size, size));
        }
    }

    private static void keysOfLowestAndHighestBytes(Check check) {
        check.words("each byte with 54 by exclusive or (bytes 0 to 255)");
        for (int value = 0; value < 256; value++) {
            macIs(check, "a key of bytes " + value, Bytes.repeat(value, 32), Bytes.mixed(43, 20));
        }
        for (int at = 0; at < 32; at++) {
            byte[] key = new byte[32];
            key[at] = -1;
            macIs(check, "a key with byte " + at, key, Bytes.mixed(43, 20));
        }
    }

    private static void theNonceDoesNotCount(Check check) {
        check.words("OUT becomes H(k' H(k\" the TAPE)) (not of THE NONCE)");
        byte[] row = Bytes.mixed(44, 50);
        StreamSeal x = Scene.with(row);
        x.nonce(-1, -1);
        x.mac();
        check.due("OUT of mac() with another nonce", Hands.out(x), Reference.mac(Scene.KEY, row));
    }

    private static void outBecomesTheMacAlone(Check check) {
        check.words("OUT becomes H(k' H(k\" the TAPE)): 32 (whatever it had)");
        byte[] row = Bytes.mixed(45, 90);
        StreamSeal x = Hands.made(Scene.KEY, Scene.NONCE, Bytes.mixed(46, 800));
        x.seal(0);
        Hands.put(x, row);
        check.due("mac() behind 816", x.mac(), 32);
        Scene.holds(check, "behind mac()", x, new byte[0], Reference.mac(Scene.KEY, row));
    }
}
