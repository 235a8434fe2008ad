import java.util.Arrays;

/** Promise 12: mac. */
public final class MacTest {
    public static void main(String[] args) {
        Check check = new Check();
        theVectorsOfTheRfc(check);
        everySize(check);
        theTapeIsEmptied(check);
        check.end();
    }

    /** RFC 4231, cases 1 to 4: their shorter keys are the same keys with 0s behind them. */
    private static void theVectorsOfTheRfc(Check check) {
        vector(check, Bytes.repeat(0x0b, 20), Bytes.text("Hi There"),
                "b0344c61d8db38535ca8afceaf0bf12b881dc200c9833da726e9376c2e32cff7");
        vector(check, Bytes.text("Jefe"), Bytes.text("what do ya want for nothing?"),
                "5bdcc146bf60754e6a042426089575c75a003f089d2739839dec58b964ec3843");
        vector(check, Bytes.repeat(0xaa, 20), Bytes.repeat(0xdd, 50),
                "773ea91e36800e46854db8ebd09181a72959098b3ef8c122d9635514ced565fe");
        vector(check, Bytes.hex("0102030405060708090a0b0c0d0e0f10111213141516171819"), Bytes.repeat(0xcd, 50),
                "82558a389a443c0ea4cc819899f2083a85f0faa3e578f8077a2e3ff46729665b");
    }

    private static void vector(Check check, byte[] key, byte[] row, String mac) {
        StreamSeal x = Hands.made(Arrays.copyOf(key, 32), new byte[12], row);
        check.due("mac()", x.mac(), 32);
        check.due("octet(-1)", x.octet(-1), 32);
        check.due("mac() of " + row.length + " bytes", Hands.out(x), mac);
    }

    private static void everySize(Check check) {
        for (int size = 0; size <= 800; size++) {
            byte[] key = Bytes.mixed(size + 1, 32);
            byte[] row = Bytes.mixed(size, size);
            StreamSeal x = Hands.made(key, new byte[12], row);
            check.due("mac() of " + size, x.mac(), 32);
            check.due("OUT of mac() of " + size, Hands.out(x), Reference.mac(key, row));
        }
    }

    private static void theTapeIsEmptied(Check check) {
        byte[] key = Bytes.mixed(41, 32);
        StreamSeal x = Hands.made(key, new byte[12], Bytes.mixed(42, 90));
        x.mac();
        check.due("end(1) behind mac()", x.end(1), StreamSeal.REFUSED);
        check.due("mac() of nothing", x.mac(), 32);
        check.due("OUT of mac() of nothing", Hands.out(x), Reference.mac(key, new byte[0]));
    }
}
