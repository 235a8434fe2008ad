/** Promise 13: octet. */
public final class OctetTest {
    private static final int[] BEYOND = {-2, -3, -64, Integer.MIN_VALUE, 816, 817, Integer.MAX_VALUE};

    public static void main(String[] args) {
        Check check = new Check();
        noneOfAnEmptyOut(check);
        bytesAreNeverNegative(check);
        noneBehindEachSize(check);
        anOpenedNothingEmptiesOut(check);
        check.end();
    }

    private static void beyond(Check check, StreamSeal x, String name) {
        for (int k : BEYOND) {
            check.due("octet(" + k + ") of " + name, x.octet(k), StreamSeal.NONE);
        }
    }

    private static void noneOfAnEmptyOut(Check check) {
        StreamSeal x = new StreamSeal();
        check.due("octet(-1) of an empty OUT", x.octet(-1), 0);
        check.due("octet(0) of an empty OUT", x.octet(0), StreamSeal.NONE);
        beyond(check, x, "an empty OUT");
        check.due("octet(-1) again", x.octet(-1), 0);
    }

    private static void bytesAreNeverNegative(Check check) {
        StreamSeal x = new StreamSeal();
        x.stream(0);
        byte[] want = Reference.stream(new byte[32], new byte[12], 0);
        for (int k = 63; k >= 0; k--) {
            check.due("octet(" + k + ")", x.octet(k), want[k] & 255);
        }
        beyond(check, x, "a stream");
    }

    private static void noneBehindEachSize(Check check) {
        StreamSeal x = new StreamSeal();
        Hands.put(x, Bytes.mixed(43, 800));
        x.seal(0);
        byte[] want = Reference.seal(new byte[32], new byte[12], new byte[0], Bytes.mixed(43, 800));
        check.due("octet(-1) of 816", x.octet(-1), 816);
        check.due("octet(0) of 816", x.octet(0), want[0] & 255);
        check.due("octet(815) of 816", x.octet(815), want[815] & 255);
        beyond(check, x, "816");
        x.stream(1);
        check.due("octet(63) of 64", x.octet(63),
                Reference.stream(new byte[32], new byte[12], 1)[63] & 255);
        check.due("octet(64) of 64", x.octet(64), StreamSeal.NONE);
        x.digest();
        check.due("octet(32) of 32", x.octet(32), StreamSeal.NONE);
        x.sum();
        check.due("octet(16) of 16", x.octet(16), StreamSeal.NONE);
        check.due("octet(15) of 16", x.octet(15), 0);
    }

    private static void anOpenedNothingEmptiesOut(Check check) {
        StreamSeal x = new StreamSeal();
        x.seal(0);
        x.take(0);
        check.due("open(0)", x.open(0), 0);
        check.due("octet(-1) of nothing opened", x.octet(-1), 0);
        check.due("octet(0) of nothing opened", x.octet(0), StreamSeal.NONE);
    }
}
