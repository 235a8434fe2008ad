import java.util.Arrays;

/** Promise 4: take. */
public final class TakeTest {
    private static final byte[] KEY = Bytes.mixed(8, 32);
    private static final byte[] NONCE = Bytes.mixed(9, 12);

    public static void main(String[] args) {
        Check check = new Check();
        outComesBehindTheCut(check);
        outStays(check);
        refusesWithoutAChange(check);
        fullAboveEightHundred(check);
        outLongerThanATapeIsFull(check);
        check.end();
    }

    private static void outComesBehindTheCut(Check check) {
        byte[] row = Bytes.mixed(10, 30);
        for (int n = 0; n <= 30; n++) {
            StreamSeal x = Hands.made(KEY, NONCE, row);
            x.stream(n);
            check.due("take(" + n + ")", x.take(n), n + 64);
            x.digest();
            check.due("H behind take(" + n + ")", Hands.out(x), Reference.digest(
                    Bytes.join(Arrays.copyOf(row, n), Reference.stream(KEY, NONCE, n))));
        }
    }

    private static void outStays(Check check) {
        StreamSeal x = Hands.made(KEY, NONCE);
        x.stream(1);
        check.due("take(0)", x.take(0), 64);
        check.due("take(64)", x.take(64), 128);
        check.due("take(10)", x.take(10), 74);
        byte[] stream = Reference.stream(KEY, NONCE, 1);
        check.due("OUT behind take", Hands.out(x), stream);
        x.digest();
        check.due("H behind three takes", Hands.out(x),
                Reference.digest(Bytes.join(Arrays.copyOf(stream, 10), stream)));
    }

    private static void refusesWithoutAChange(Check check) {
        byte[] row = Bytes.mixed(11, 25);
        StreamSeal x = Hands.made(KEY, NONCE, row);
        x.stream(1);
        int[] refused = {26, 740, 800, 801, Integer.MAX_VALUE, -1, -64, Integer.MIN_VALUE};
        for (int n : refused) {
            check.due("take(" + n + ") of 25", x.take(n), StreamSeal.REFUSED);
        }
        check.due("OUT behind refused takes", Hands.out(x), Reference.stream(KEY, NONCE, 1));
        x.digest();
        check.due("H behind refused takes", Hands.out(x), Reference.digest(row));
    }

    private static void fullAboveEightHundred(Check check) {
        byte[] row = Bytes.mixed(12, 760);
        StreamSeal x = Hands.made(KEY, NONCE, row);
        x.stream(2);
        check.due("take(737) of 760", x.take(737), StreamSeal.FULL);
        check.due("take(760) of 760", x.take(760), StreamSeal.FULL);
        check.due("take(761) of 760", x.take(761), StreamSeal.REFUSED);
        check.due("end(760) behind FULL takes", x.end(760), 760);
        check.due("take(736) of 760", x.take(736), 800);
        x.digest();
        check.due("H(800 bytes)", Hands.out(x), Reference.digest(
                Bytes.join(Arrays.copyOf(row, 736), Reference.stream(KEY, NONCE, 2))));
    }

    private static void outLongerThanATapeIsFull(Check check) {
        StreamSeal x = Hands.made(KEY, NONCE, Bytes.mixed(13, 800));
        check.due("seal(0) of 800", x.seal(0), 816);
        check.due("take(0) of 816", x.take(0), StreamSeal.FULL);
        check.due("take(1) of 816", x.take(1), StreamSeal.REFUSED);
        check.due("end(1) behind them", x.end(1), StreamSeal.REFUSED);
        Hands.put(x, Bytes.mixed(13, 785));
        check.due("seal(0) of 785", x.seal(0), 801);
        check.due("take(0) of 801", x.take(0), StreamSeal.FULL);
        Hands.put(x, Bytes.mixed(13, 784));
        check.due("seal(0) of 784", x.seal(0), 800);
        check.due("take(0) of 800", x.take(0), 800);
    }
}
