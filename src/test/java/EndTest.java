import java.util.Arrays;

/** Promise 3: end. */
public final class EndTest {
    private static final int[] SIZES = {0, 1, 20, 33, 799, 800};

    public static void main(String[] args) {
        Check check = new Check();
        cutsToTheFirstBytes(check);
        allOfItIsNoCut(check);
        noneOfItIsEmpty(check);
        whatIsCutIsGone(check);
        oneMoreThanItHasIsRefused(check);
        anyMoreThanItHasIsRefused(check);
        belowZeroIsRefused(check);
        check.end();
    }

    private static void cutsToTheFirstBytes(Check check) {
        check.words("The TAPE is cut to its first n bytes: n");
        byte[] row = Bytes.mixed(6, 40);
        for (int n = 0; n <= 40; n++) {
            StreamSeal x = Scene.with(row);
            check.due("end(" + n + ")", x.end(n), n);
            Scene.holds(check, "behind end(" + n + ")", x, Arrays.copyOf(row, n), Scene.OUT);
        }
    }

    private static void allOfItIsNoCut(Check check) {
        check.words("The TAPE is cut to its first n bytes (all of them)");
        for (int size : SIZES) {
            StreamSeal x = Scene.with(Bytes.mixed(7, size));
            check.due("end(" + size + ") of " + size, x.end(size), size);
            Scene.holds(check, "behind end of all " + size, x, Bytes.mixed(7, size), Scene.OUT);
        }
    }

    private static void noneOfItIsEmpty(Check check) {
        check.words("The TAPE is cut to its first n bytes (none of them)");
        for (int size : SIZES) {
            StreamSeal x = Scene.with(Bytes.mixed(8, size));
            check.due("end(0) of " + size, x.end(0), 0);
            Scene.holds(check, "behind end(0) of " + size, x, new byte[0], Scene.OUT);
        }
    }

    private static void whatIsCutIsGone(Check check) {
        check.words("The TAPE is cut (what is cut does not come back)");
        StreamSeal x = Scene.with(Bytes.mixed(9, 800));
        check.due("end(799)", x.end(799), 799);
        check.due("end(800) behind end(799)", x.end(800), StreamSeal.REFUSED);
        check.due("end(5) behind end(799)", x.end(5), 5);
        check.due("end(6) behind end(5)", x.end(6), StreamSeal.REFUSED);
        check.due("end(5) again", x.end(5), 5);
        check.due("end(0) behind end(5)", x.end(0), 0);
        check.due("end(1) behind end(0)", x.end(1), StreamSeal.REFUSED);
        check.due("end(0) again", x.end(0), 0);
    }

    private static void oneMoreThanItHasIsRefused(Check check) {
        check.words("REFUSED if it has less (by one)");
        for (int size : SIZES) {
            refused(check, size, size + 1);
        }
    }

    private static void anyMoreThanItHasIsRefused(Check check) {
        check.words("REFUSED if it has less (by any number)");
        for (int size : SIZES) {
            refused(check, size, size + 20);
            refused(check, size, 801);
            refused(check, size, 65536);
            refused(check, size, Integer.MAX_VALUE);
        }
    }

    private static void belowZeroIsRefused(Check check) {
        check.words("REFUSED if .. n is below 0");
        for (int size : SIZES) {
            refused(check, size, -1);
            refused(check, size, -2);
            refused(check, size, -size - 1);
            refused(check, size, Integer.MIN_VALUE);
        }
    }

    private static void refused(Check check, int size, int n) {
        byte[] row = Bytes.mixed(10, size);
        StreamSeal x = Scene.with(row);
        check.due("end(" + n + ") of " + size, x.end(n), StreamSeal.REFUSED);
        Scene.holds(check, "behind end(" + n + ") of " + size, x, row, Scene.OUT);
    }
}
