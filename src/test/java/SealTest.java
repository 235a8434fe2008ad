import java.util.Arrays;

/** Promise 9: seal. */
public final class SealTest {
    private static final byte[] KEY = Bytes.mixed(26, 32);
    private static final byte[] NONCE = Bytes.mixed(27, 12);

    public static void main(String[] args) {
        Check check = new Check();
        theVectorOfTheRfc(check);
        edgesOfBlocks(check);
        refusesWithoutAChange(check);
        theTapeIsEmptied(check);
        check.end();
    }

    private static void theVectorOfTheRfc(Check check) {
        // RFC 8439, 2.8.2
        byte[] key = new byte[32];
        for (int i = 0; i < 32; i++) {
            key[i] = (byte) (128 + i);
        }
        byte[] head = Bytes.hex("50515253c0c1c2c3c4c5c6c7");
        byte[] body = Bytes.text("Ladies and Gentlemen of the class of '99: "
                + "If I could offer you only one tip for the future, sunscreen would be it.");
        StreamSeal x = Hands.made(key, Bytes.hex("070000004041424344454647"), Bytes.join(head, body));
        check.due("seal(12)", x.seal(12), 130);
        check.due("OUT of seal(12)", Hands.out(x),
                "d31a8d34648e60db7b86afbc53ef7ec2a4aded51296e08fea9e2b5a736ee62d6"
                + "3dbea45e8ca9671282fafb69da92728b1a71de0a9e060b2905d6a5b67ecd3b36"
                + "92ddbd7f2d778b8c9803aee328091b58fab324e4fad675945585808b4831d7bc"
                + "3ff4def08e4b7a9de576d26586cec64b6116"
                + "1ae10b594f09e26a7e902ecbd0600691");
    }

    private static void edgesOfBlocks(Check check) {
        int[] sizes = {0, 1, 15, 16, 17, 31, 32, 63, 64, 65, 127, 128, 129, 255, 256, 400, 784, 785, 799, 800};
        for (int head : sizes) {
            for (int body : sizes) {
                if (head + body <= 800) {
                    sealed(check, head, body);
                }
            }
        }
    }

    /** Looks at OUT through several objects, so that none has more calls than are promised. */
    private static void sealed(Check check, int head, int body) {
        byte[] row = Bytes.mixed(head * 801 + body, head + body);
        byte[] want = Reference.seal(KEY, NONCE, Arrays.copyOf(row, head),
                Arrays.copyOfRange(row, head, head + body));
        String name = "seal(" + head + ") of " + (head + body);
        for (int from = 0; from < want.length; from += 400) {
            int to = Math.min(from + 400, want.length);
            StreamSeal x = Hands.made(KEY, NONCE, row);
            check.due(name, x.seal(head), want.length);
            check.due("octet(-1) behind " + name, x.octet(-1), want.length);
            check.due("OUT from " + from + " of " + name, Hands.out(x, from, to),
                    Arrays.copyOfRange(want, from, to));
        }
    }

    private static void refusesWithoutAChange(Check check) {
        byte[] row = Bytes.mixed(28, 35);
        StreamSeal x = Hands.made(KEY, NONCE, row);
        x.stream(4);
        int[] refused = {36, 51, 800, 801, Integer.MAX_VALUE, -1, -16, Integer.MIN_VALUE};
        for (int n : refused) {
            check.due("seal(" + n + ") of 35", x.seal(n), StreamSeal.REFUSED);
        }
        check.due("OUT behind refused seals", Hands.out(x), Reference.stream(KEY, NONCE, 4));
        check.due("end(35) behind refused seals", x.end(35), 35);
        check.due("seal(35) of 35", x.seal(35), 16);
        check.due("OUT of seal(35)", Hands.out(x), Reference.seal(KEY, NONCE, row, new byte[0]));
    }

    private static void theTapeIsEmptied(Check check) {
        StreamSeal x = Hands.made(KEY, NONCE, Bytes.mixed(29, 70));
        x.seal(30);
        check.due("end(1) behind seal", x.end(1), StreamSeal.REFUSED);
        check.due("seal(1) of nothing", x.seal(1), StreamSeal.REFUSED);
        check.due("seal(0) of nothing", x.seal(0), 16);
        check.due("OUT of seal(0) of nothing", Hands.out(x),
                Reference.seal(KEY, NONCE, new byte[0], new byte[0]));
    }
}
