import java.util.Arrays;

/** What the terms say of the TAPE: which calls empty it, and which leave it as it is. */
public final class TermsTest {
    private static final byte[] NOTHING = new byte[0];
    private static final int[] SIZES = {0, 1, 16, 32, 33, 64, 799, 800};

    public static void main(String[] args) {
        Check check = new Check();
        keyEmptiesTheTape(check);
        sumEmptiesTheTape(check);
        sealEmptiesTheTape(check);
        openEmptiesTheTape(check);
        openThatAnswersNoneEmptiesTheTape(check);
        digestEmptiesTheTape(check);
        macEmptiesTheTape(check);
        sealRefusedLeavesTheTape(check);
        openRefusedLeavesTheTape(check);
        keyRefusedIsNotByANumber(check);
        callsThatDoNotReadLeaveTheTape(check);
        theTapeIsUsedAgainBehindEachReading(check);
        check.end();
    }

    private static void emptied(Check check, String call, StreamSeal x) {
        check.due("end(1) behind " + call, x.end(1), StreamSeal.REFUSED);
        check.due("end(0) behind " + call, x.end(0), 0);
        check.due("feed behind " + call, x.feed(1, 2, 3, 4, 5), 20);
        Scene.tapeIs(check, "behind " + call + " and feed", x,
                Bytes.hex("00000001 00000002 00000003 00000004 00000005"));
    }

    private static void keyEmptiesTheTape(Check check) {
        check.words("calls that read it empty it (key)");
        StreamSeal x = Scene.with(Bytes.mixed(1, 32));
        check.due("key() of 32", x.key(), 0);
        emptied(check, "key() of 32", x);
    }

    private static void sumEmptiesTheTape(Check check) {
        check.words("calls that read it empty it (sum)");
        for (int size : SIZES) {
            StreamSeal x = Scene.with(Bytes.mixed(2, size));
            check.due("sum() of " + size, x.sum(), 16);
            emptied(check, "sum() of " + size, x);
        }
    }

    private static void sealEmptiesTheTape(Check check) {
        check.words("calls that read it empty it (seal)");
        for (int size : SIZES) {
            StreamSeal x = Scene.with(Bytes.mixed(3, size));
            check.due("seal(0) of " + size, x.seal(0), size + 16);
            emptied(check, "seal(0) of " + size, x);
            StreamSeal y = Scene.with(Bytes.mixed(3, size));
            check.due("seal(" + size + ") of " + size, y.seal(size), 16);
            emptied(check, "seal(" + size + ") of " + size, y);
        }
    }

    private static void openEmptiesTheTape(Check check) {
        check.words("calls that read it empty it (open)");
        for (int size : SIZES) {
            if (size <= 784) {
                byte[] sealed = Reference.seal(Scene.KEY, Scene.NONCE, NOTHING, Bytes.mixed(4, size));
                StreamSeal x = Scene.with(sealed);
                check.due("open(0) of " + sealed.length, x.open(0), size);
                emptied(check, "open(0) of " + sealed.length, x);
            }
        }
    }

    /** NONE is not REFUSED: such a call has read the TAPE. */
    private static void openThatAnswersNoneEmptiesTheTape(Check check) {
        check.words("calls that read it empty it (open that answers NONE)");
        int[] sizes = {16, 17, 32, 800};
        for (int size : sizes) {
            StreamSeal x = Scene.with(Bytes.mixed(5, size));
            check.due("open(0) of " + size, x.open(0), StreamSeal.NONE);
            emptied(check, "open(0) of " + size, x);
            StreamSeal y = Scene.with(Bytes.mixed(5, size));
            check.due("open(" + (size - 16) + ") of " + size, y.open(size - 16), StreamSeal.NONE);
            emptied(check, "open(" + (size - 16) + ") of " + size, y);
        }
    }

    private static void digestEmptiesTheTape(Check check) {
        check.words("calls that read it empty it (digest)");
        for (int size : SIZES) {
            StreamSeal x = Scene.with(Bytes.mixed(6, size));
            check.due("digest() of " + size, x.digest(), 32);
            emptied(check, "digest() of " + size, x);
        }
    }

    private static void macEmptiesTheTape(Check check) {
        check.words("calls that read it empty it (mac)");
        for (int size : SIZES) {
            StreamSeal x = Scene.with(Bytes.mixed(7, size));
            check.due("mac() of " + size, x.mac(), 32);
            emptied(check, "mac() of " + size, x);
        }
    }

    private static void sealRefusedLeavesTheTape(Check check) {
        check.words("unless they are REFUSED by a number (seal)");
        for (int size : SIZES) {
            byte[] row = Bytes.mixed(8, size);
            int[] refused = {size + 1, Integer.MAX_VALUE, -1, Integer.MIN_VALUE};
            for (int n : refused) {
                StreamSeal x = Scene.with(row);
                check.due("seal(" + n + ") of " + size, x.seal(n), StreamSeal.REFUSED);
                Scene.holds(check, "behind seal(" + n + ") of " + size, x, row, Scene.OUT);
            }
        }
    }

    private static void openRefusedLeavesTheTape(Check check) {
        check.words("unless they are REFUSED by a number (open)");
        for (int size : SIZES) {
            byte[] row = Bytes.mixed(9, size);
            int[] refused = {Math.max(0, size - 15), size + 1, Integer.MAX_VALUE, -1, Integer.MIN_VALUE};
            for (int n : refused) {
                StreamSeal x = Scene.with(row);
                check.due("open(" + n + ") of " + size, x.open(n), StreamSeal.REFUSED);
                Scene.holds(check, "behind open(" + n + ") of " + size, x, row, Scene.OUT);
            }
        }
    }

    private static void keyRefusedIsNotByANumber(Check check) {
        check.words("unless they are REFUSED by a number (key has none)");
        StreamSeal x = Scene.with(Bytes.mixed(10, 31));
        check.due("key() of 31", x.key(), StreamSeal.REFUSED);
        emptied(check, "key() of 31", x);
    }

    private static void callsThatDoNotReadLeaveTheTape(Check check) {
        check.words("calls that read it empty it (nonce, stream, octet and take do not)");
        for (int size : SIZES) {
            byte[] row = Bytes.mixed(11, size);
            StreamSeal x = Scene.with(row);
            x.nonce(1, 2);
            Scene.tapeIs(check, "behind nonce, of " + size, x, row);
            x = Scene.with(row);
            x.stream(-1);
            Scene.tapeIs(check, "behind stream, of " + size, x, row);
            x = Scene.with(row);
            x.octet(-1);
            x.octet(0);
            x.octet(64);
            Scene.tapeIs(check, "behind octets, of " + size, x, row);
            x = Scene.with(row);
            x.take(Math.min(size, 736));
            Scene.tapeIs(check, "behind take, of " + size, x,
                    Bytes.join(Arrays.copyOf(row, Math.min(size, 736)), Scene.OUT));
        }
    }

    /** What an earlier TAPE had must not be seen in a shorter one behind it. */
    private static void theTapeIsUsedAgainBehindEachReading(Check check) {
        check.words("calls that read it empty it (then it is as a new one)");
        StreamSeal x = Scene.with(Bytes.repeat(255, 800));
        x.digest();
        for (int size = 0; size <= 40; size++) {
            byte[] row = Bytes.mixed(12 + size, size);
            Hands.put(x, row);
            x.digest();
            check.due("octet(0) of H of " + size, x.octet(0), Reference.digest(row)[0] & 255);
            check.due("octet(31) of H of " + size, x.octet(31), Reference.digest(row)[31] & 255);
        }
    }
}
