import java.util.Arrays;

/**
 * An object in which neither THE KEY, THE NONCE nor OUT is as at first, so that a call is seen to change
 * what it should leave; and a look at all that an object holds.
 */
final class Scene {
    static final byte[] KEY = Bytes.mixed(50, 32);
    static final byte[] NONCE = Bytes.mixed(51, 12);
    static final byte[] OUT = Reference.stream(KEY, NONCE, 6);

    /** A look at more would take more calls than an object is promised for. */
    private static final int LOOKED_AT = 120;

    private Scene() {
    }

    static StreamSeal with(byte[] tape) {
        StreamSeal x = Hands.made(KEY, NONCE, tape);
        x.stream(6);
        return x;
    }

    /** The TAPE and OUT are others behind it, so it comes last. */
    static void holds(Check check, String when, StreamSeal x, byte[] tape, byte[] out) {
        holds(check, when, x, tape, out, KEY, NONCE);
    }

    static void holds(Check check, String when, StreamSeal x, byte[] tape, byte[] out, byte[] key, byte[] nonce) {
        outIs(check, when, x, out);
        tapeIs(check, when, x, tape);
        x.stream(1);
        check.due("THE KEY and THE NONCE, by a stream, " + when, Hands.out(x), Reference.stream(key, nonce, 1));
    }

    /** OUT is another behind it. */
    static void tapeIs(Check check, String when, StreamSeal x, byte[] tape) {
        check.due("end, one beyond the TAPE, " + when, x.end(tape.length + 1), StreamSeal.REFUSED);
        check.due("end, the whole TAPE, " + when, x.end(tape.length), tape.length);
        x.digest();
        check.due("the TAPE, by its digest, " + when, Hands.out(x), Reference.digest(tape));
    }

    /** Of a long OUT it looks at both ends. */
    static void outIs(Check check, String when, StreamSeal x, byte[] out) {
        check.due("octet(-1) " + when, x.octet(-1), out.length);
        check.due("octet behind OUT " + when, x.octet(out.length), StreamSeal.NONE);
        int first = Math.min(LOOKED_AT, out.length);
        check.due("OUT " + when, Hands.out(x, 0, first), Arrays.copyOf(out, first));
        int last = Math.max(first, out.length - LOOKED_AT);
        check.due("OUT's end " + when, Hands.out(x, last, out.length), Arrays.copyOfRange(out, last, out.length));
    }
}
