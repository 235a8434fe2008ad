import java.util.Arrays;

/** Promise 4: take. */
public final class TakeTest {
    private static final byte[] NOTHING = new byte[0];
    private static final int[] SIZES = {0, 1, 20, 33, 736};

    public static void main(String[] args) {
        Check check = new Check();
        outComesBehindTheCut(check);
        allOfTheTapeIsNoCut(check);
        noneOfTheTapeIsOutAlone(check);
        anEmptyOutIsOnlyTheCut(check);
        outStays(check);
        oneMoreThanItHasIsRefused(check);
        anyMoreThanItHasIsRefused(check);
        belowZeroIsRefused(check);
        eightHundredIsNotFull(check);
        oneByteMoreThanEightHundredIsFull(check);
        anyMoreThanEightHundredIsFull(check);
        theCutIsWhatCounts(check);
        anOutLongerThanATapeIsFull(check);
        refusedComesBeforeFull(check);
        check.end();
    }

    private static void taken(Check check, byte[] row, int n) {
        StreamSeal x = Scene.with(row);
        String call = "take(" + n + ") of " + row.length;
        check.due(call, x.take(n), n + 64);
        Scene.holds(check, "behind " + call, x, Bytes.join(Arrays.copyOf(row, n), Scene.OUT), Scene.OUT);
    }

    private static void outComesBehindTheCut(Check check) {
        check.words("The TAPE is cut to its first n bytes, then those of OUT come behind them: how many it has");
        byte[] row = Bytes.mixed(10, 100);
        for (int n = 0; n <= 100; n++) {
            taken(check, row, n);
        }
    }

    private static void allOfTheTapeIsNoCut(Check check) {
        check.words("The TAPE is cut to its first n bytes (all of them), then those of OUT");
        for (int size : SIZES) {
            taken(check, Bytes.mixed(11, size), size);
        }
    }

    private static void noneOfTheTapeIsOutAlone(Check check) {
        check.words("The TAPE is cut to its first n bytes (none of them), then those of OUT");
        for (int size : SIZES) {
            taken(check, Bytes.mixed(12, size), 0);
        }
        taken(check, Bytes.mixed(12, 800), 0);
    }

    private static void anEmptyOutIsOnlyTheCut(Check check) {
        check.words("then those of OUT come behind them (OUT being empty)");
        int[] sizes = {0, 1, 20, 799, 800};
        for (int size : sizes) {
            byte[] row = Bytes.mixed(13, size);
            int[] cuts = {0, size / 2, size};
            for (int n : cuts) {
                StreamSeal x = Hands.made(Scene.KEY, Scene.NONCE, row);
                check.due("take(" + n + ") of " + size + " and nothing", x.take(n), n);
                Scene.holds(check, "behind take(" + n + ") of nothing", x, Arrays.copyOf(row, n), NOTHING);
            }
        }
    }

    private static void outStays(Check check) {
        check.words("those of OUT come behind them (and stay in OUT)");
        StreamSeal x = Scene.with(NOTHING);
        check.due("take(0)", x.take(0), 64);
        check.due("take(64)", x.take(64), 128);
        check.due("take(10)", x.take(10), 74);
        Scene.holds(check, "behind three takes", x,
                Bytes.join(Arrays.copyOf(Scene.OUT, 10), Scene.OUT), Scene.OUT);
    }

    private static void refused(Check check, int size, int n) {
        byte[] row = Bytes.mixed(14, size);
        StreamSeal x = Scene.with(row);
        check.due("take(" + n + ") of " + size, x.take(n), StreamSeal.REFUSED);
        Scene.holds(check, "behind take(" + n + ") of " + size, x, row, Scene.OUT);
        StreamSeal y = Hands.made(Scene.KEY, Scene.NONCE, row);
        check.due("take(" + n + ") of " + size + " and nothing", y.take(n), StreamSeal.REFUSED);
        Scene.holds(check, "behind take(" + n + ") of nothing", y, row, NOTHING);
    }

    private static void oneMoreThanItHasIsRefused(Check check) {
        check.words("REFUSED as for end (it has less, by one)");
        for (int size : SIZES) {
            refused(check, size, size + 1);
        }
        refused(check, 800, 801);
    }

    /** The highest numbers would wrap around when OUT's size is added. */
    private static void anyMoreThanItHasIsRefused(Check check) {
        check.words("REFUSED as for end (it has less, by any number)");
        for (int size : SIZES) {
            refused(check, size, 737);
            refused(check, size, 800);
            refused(check, size, 801);
            refused(check, size, Integer.MAX_VALUE - 63);
            refused(check, size, Integer.MAX_VALUE);
        }
    }

    private static void belowZeroIsRefused(Check check) {
        check.words("REFUSED as for end (n is below 0)");
        for (int size : SIZES) {
            refused(check, size, -1);
            refused(check, size, -64);
            refused(check, size, -65);
            refused(check, size, Integer.MIN_VALUE);
        }
    }

    private static void eightHundredIsNotFull(Check check) {
        check.words("FULL if that were more than 800 (800 are not more)");
        taken(check, Bytes.mixed(15, 736), 736);
        taken(check, Bytes.mixed(15, 800), 736);
    }

    private static void full(Check check, int size, int n) {
        byte[] row = Bytes.mixed(16, size);
        StreamSeal x = Scene.with(row);
        check.due("take(" + n + ") of " + size, x.take(n), StreamSeal.FULL);
        Scene.holds(check, "behind take(" + n + ") of " + size, x, row, Scene.OUT);
    }

    private static void oneByteMoreThanEightHundredIsFull(Check check) {
        check.words("FULL if that were more than 800 (by one; nothing is done)");
        full(check, 737, 737);
        full(check, 760, 737);
        full(check, 800, 737);
    }

    private static void anyMoreThanEightHundredIsFull(Check check) {
        check.words("FULL if that were more than 800 (by any number; nothing is done)");
        for (int n = 738; n <= 800; n++) {
            full(check, 800, n);
        }
        full(check, 738, 738);
    }

    private static void theCutIsWhatCounts(Check check) {
        check.words("FULL if that were more than 800 (that: behind the cut)");
        taken(check, Bytes.mixed(17, 800), 0);
        taken(check, Bytes.mixed(17, 800), 1);
        taken(check, Bytes.mixed(17, 737), 736);
    }

    private static void anOutLongerThanATapeIsFull(Check check) {
        check.words("FULL if that were more than 800 (by OUT alone; nothing is done)");
        int[] longer = {800, 799, 785};
        for (int size : longer) {
            byte[] row = Bytes.mixed(18, size);
            byte[] sealed = Reference.seal(Scene.KEY, Scene.NONCE, NOTHING, row);
            StreamSeal x = Hands.made(Scene.KEY, Scene.NONCE, row);
            check.due("seal(0) of " + size, x.seal(0), size + 16);
            check.due("take(0) of " + (size + 16), x.take(0), StreamSeal.FULL);
            Scene.holds(check, "behind take(0) of " + (size + 16), x, NOTHING, sealed);
        }
        byte[] row = Bytes.mixed(18, 784);
        StreamSeal x = Hands.made(Scene.KEY, Scene.NONCE, row);
        check.due("seal(0) of 784", x.seal(0), 800);
        check.due("take(0) of 800", x.take(0), 800);
        Scene.tapeIs(check, "behind take(0) of 800", x, Reference.seal(Scene.KEY, Scene.NONCE, NOTHING, row));
    }

    /** Where both hold, the words that stand first count. */
    private static void refusedComesBeforeFull(Check check) {
        check.words("REFUSED as for end; FULL if that were more than 800 (both)");
        refused(check, 760, 761);
        refused(check, 800, 801);
        StreamSeal x = Hands.made(Scene.KEY, Scene.NONCE, Bytes.mixed(19, 800));
        x.seal(0);
        check.due("take(1) of nothing and 816", x.take(1), StreamSeal.REFUSED);
        check.due("take(-1) of nothing and 816", x.take(-1), StreamSeal.REFUSED);
    }
}
