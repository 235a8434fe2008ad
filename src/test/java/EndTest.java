import java.util.Arrays;

/** Promise 3: end. */
public final class EndTest {
    public static void main(String[] args) {
        Check check = new Check();
        cutsToTheFirstBytes(check);
        refusesWithoutAChange(check);
        check.end();
    }

    private static void cutsToTheFirstBytes(Check check) {
        byte[] row = Bytes.mixed(6, 40);
        for (int n = 0; n <= 40; n++) {
            StreamSeal x = new StreamSeal();
            Hands.put(x, row);
            check.due("end(" + n + ")", x.end(n), n);
            check.due("end(" + (n + 1) + ") behind it", x.end(n + 1), StreamSeal.REFUSED);
            x.digest();
            check.due("H behind end(" + n + ")", Hands.out(x), Reference.digest(Arrays.copyOf(row, n)));
        }
    }

    private static void refusesWithoutAChange(Check check) {
        byte[] row = Bytes.mixed(7, 33);
        StreamSeal x = new StreamSeal();
        x.stream(3);
        Hands.put(x, row);
        int[] refused = {34, 35, 800, 801, Integer.MAX_VALUE, -1, -2, Integer.MIN_VALUE};
        for (int n : refused) {
            check.due("end(" + n + ") of 33", x.end(n), StreamSeal.REFUSED);
        }
        check.due("octet(-1) behind end", x.octet(-1), 64);
        x.digest();
        check.due("H behind refused ends", Hands.out(x), Reference.digest(row));
        check.due("end(0) of an emptied TAPE", x.end(0), 0);
    }
}
