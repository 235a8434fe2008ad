/** Promise 11: digest. */
public final class DigestTest {
    public static void main(String[] args) {
        Check check = new Check();
        theVectorsOfTheStandard(check);
        everySize(check);
        theTapeIsEmptied(check);
        check.end();
    }

    private static void theVectorsOfTheStandard(Check check) {
        vector(check, "", "e3b0c44298fc1c149afbf4c8996fb92427ae41e4649b934ca495991b7852b855");
        vector(check, "abc", "ba7816bf8f01cfea414140de5dae2223b00361a396177a9cb410ff61f20015ad");
        vector(check, "abcdbcdecdefdefgefghfghighijhijkijkljklmklmnlmnomnopnopq",
                "248d6a61d20638b8e5c026930c3e6039a33ce45964ff2167f6ecedd419db06c1");
    }

    private static void vector(Check check, String text, String digest) {
        StreamSeal x = new StreamSeal();
        Hands.put(x, Bytes.text(text));
        check.due("digest()", x.digest(), 32);
        check.due("octet(-1)", x.octet(-1), 32);
        check.due("H(" + text + ")", Hands.out(x), digest);
    }

    private static void everySize(Check check) {
        for (int size = 0; size <= 800; size++) {
            byte[] row = Bytes.mixed(size, size);
            StreamSeal x = new StreamSeal();
            Hands.put(x, row);
            check.due("digest() of " + size, x.digest(), 32);
            check.due("H of " + size + " bytes", Hands.out(x), Reference.digest(row));
        }
    }

    private static void theTapeIsEmptied(Check check) {
        StreamSeal x = Hands.made(Bytes.mixed(38, 32), Bytes.mixed(39, 12), Bytes.mixed(40, 90));
        x.digest();
        check.due("end(1) behind digest()", x.end(1), StreamSeal.REFUSED);
        x.digest();
        check.due("H of nothing", Hands.out(x), Reference.digest(new byte[0]));
        x.stream(1);
        check.due("stream behind digest()", Hands.out(x),
                Reference.stream(Bytes.mixed(38, 32), Bytes.mixed(39, 12), 1));
    }
}
