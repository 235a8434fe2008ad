/** Promise 5: key. */
public final class KeyTest {
    public static void main(String[] args) {
        Check check = new Check();
        theTapeBecomesTheKey(check);
        refusesAnyOtherSize(check);
        check.end();
    }

    private static void theTapeBecomesTheKey(Check check) {
        byte[] key = Bytes.mixed(14, 32);
        byte[] nonce = Bytes.mixed(15, 12);
        StreamSeal x = new StreamSeal();
        Hands.setNonce(x, nonce);
        x.stream(9);
        Hands.put(x, key);
        check.due("key()", x.key(), 0);
        check.due("end(1) behind key()", x.end(1), StreamSeal.REFUSED);
        check.due("OUT behind key()", Hands.out(x), Reference.stream(new byte[32], nonce, 9));
        x.stream(9);
        check.due("stream behind key()", Hands.out(x), Reference.stream(key, nonce, 9));
        Hands.put(x, Bytes.mixed(16, 32));
        check.due("key() again", x.key(), 0);
        x.stream(9);
        check.due("stream behind another key()", Hands.out(x), Reference.stream(Bytes.mixed(16, 32), nonce, 9));
    }

    private static void refusesAnyOtherSize(Check check) {
        byte[] key = Bytes.mixed(17, 32);
        int[] sizes = {0, 1, 20, 31, 33, 40, 64, 800};
        for (int size : sizes) {
            StreamSeal x = Hands.made(key, new byte[12], Bytes.mixed(18, size));
            check.due("key() of " + size, x.key(), StreamSeal.REFUSED);
            check.due("end(1) behind key() of " + size, x.end(1), StreamSeal.REFUSED);
            check.due("octet(-1) behind key() of " + size, x.octet(-1), 0);
            x.stream(0);
            check.due("stream behind key() of " + size, Hands.out(x), Reference.stream(key, new byte[12], 0));
        }
    }
}
