import java.util.Random;

/** All promises together: long runs of calls with fixed seeds, each answer held against the model's. */
public final class ModelTest {
    private static final int RUNS = 1500;
    private static final int CALLS = 512;
    /** The most calls that these runs of calls make, so that an object has no more than are promised. */
    private static final int KEY_CALLS = 4;
    private static final int SEAL_CALLS = 41;
    private static final int[] ODD = {-1, -2, -16, 16, 32, 63, 64, 799, 800, 801, 816,
        Integer.MAX_VALUE, Integer.MAX_VALUE - 15, Integer.MIN_VALUE};

    private final Check check;
    private final Random random;
    private final int seed;
    private final StreamSeal x = new StreamSeal();
    private final Model model = new Model();
    private int left = CALLS;
    private int opened = 0;

    private ModelTest(Check check, int seed) {
        this.check = check;
        this.seed = seed;
        this.random = new Random(seed);
    }

    public static void main(String[] args) {
        Check check = new Check();
        check.words("the answers and state changes described above, up to the 512th call");
        int opened = 0;
        for (int seed = 0; seed < RUNS && !check.anyWrong(); seed++) {
            ModelTest run = new ModelTest(check, seed);
            run.runAll();
            opened += run.opened;
        }
        check.due("runs that opened what they had sealed", opened > RUNS ? 1 : 0, 1);
        check.end();
    }

    private void runAll() {
        while (left > 0 && !check.anyWrong()) {
            switch (random.nextInt(12)) {
                case 0 -> feed(1 + random.nextInt(45));
                case 1 -> end(number(model.tape.length));
                case 2 -> take(number(model.tape.length));
                case 3 -> changeKey();
                case 4 -> nonce();
                case 5 -> stream();
                case 6 -> readingCall();
                case 7 -> seal(number(model.tape.length));
                case 8 -> open(number(model.tape.length - 16));
                case 9 -> sealAndOpen();
                default -> octets(1 + random.nextInt(12));
            }
        }
    }

    /** Mostly a number that fits, sometimes the highest that does, one more, or an odd one. */
    private int number(int most) {
        int kind = random.nextInt(10);
        if (kind == 0) {
            return ODD[random.nextInt(ODD.length)];
        }
        if (kind < 3) {
            return most + kind - 1;
        }
        return random.nextInt(Math.max(0, most) + 1);
    }

    private int word() {
        int kind = random.nextInt(6);
        return kind == 0 ? -1 : kind == 1 ? 0 : random.nextInt();
    }

    private void due(String what, int got, int want) {
        left--;
        check.due("seed " + seed + ", " + left + " left: " + what, got, want);
    }

    private void feed(int times) {
        for (int i = 0; i < times && left > 0; i++) {
            int a = word();
            int b = word();
            int c = word();
            int d = word();
            int e = word();
            due("feed", x.feed(a, b, c, d, e), model.feed(a, b, c, d, e));
        }
    }

    private void end(int n) {
        due("end(" + n + ")", x.end(n), model.end(n));
    }

    private void take(int n) {
        due("take(" + n + ")", x.take(n), model.take(n));
    }

    private void changeKey() {
        if (random.nextBoolean() && left >= KEY_CALLS) {
            feed(2);
            end(32);
        }
        due("key()", x.key(), model.key());
    }

    private void nonce() {
        int a = word();
        long b = (long) word() << 32 ^ word();
        x.nonce(a, b);
        model.nonce(a, b);
        left--;
    }

    private void stream() {
        int c = random.nextBoolean() ? random.nextInt(20) : word();
        due("stream(" + c + ")", x.stream(c), model.stream(c));
    }

    private void readingCall() {
        switch (random.nextInt(3)) {
            case 0 -> due("sum()", x.sum(), model.sum());
            case 1 -> due("digest()", x.digest(), model.digest());
            default -> due("mac()", x.mac(), model.mac());
        }
    }

    private void seal(int n) {
        due("seal(" + n + ")", x.seal(n), model.seal(n));
    }

    private void open(int n) {
        int want = model.open(n);
        opened += want >= 0 ? 1 : 0;
        due("open(" + n + ")", x.open(n), want);
    }

    /** Without a head, the sealed bytes alone make the TAPE that opens. */
    private void sealAndOpen() {
        if (left < SEAL_CALLS) {
            return;
        }
        feed(random.nextInt(30));
        end(random.nextInt(model.tape.length + 1));
        seal(0);
        take(0);
        if (random.nextInt(4) == 0) {
            end(number(model.tape.length));
        }
        if (random.nextInt(8) == 0) {
            nonce();
        }
        open(random.nextInt(8) == 0 ? number(model.tape.length - 16) : 0);
        octets(5);
    }

    private void octets(int times) {
        for (int i = 0; i < times && left > 0; i++) {
            int k = number(model.out.length);
            due("octet(" + k + ")", x.octet(k), model.octet(k));
        }
    }
}
