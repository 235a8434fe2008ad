import java.lang.reflect.Constructor;
import java.lang.reflect.Field;
import java.lang.reflect.Method;
import java.lang.reflect.Modifier;
import java.util.Arrays;
import java.util.Set;
import java.util.TreeSet;

/** Promise 1, the face, and what the first words of the document say of a new object. */
public final class NewObjectTest {
    private static final byte[] ZERO_KEY = new byte[32];
    private static final byte[] ZERO_NONCE = new byte[12];
    private static final byte[] NOTHING = new byte[0];

    public static void main(String[] args) {
        Check check = new Check();
        theTapeIsEmptyAtFirst(check);
        outIsEmptyAtFirst(check);
        theKeyIsZeroAtFirst(check);
        theNonceIsZeroAtFirst(check);
        objectsShareNothing(check);
        theLastPromisedCallAnswers(check);
        whatTheLastPromisedCallsLeave(check);
        theFaceIsTheDocuments(check);
        check.end();
    }

    private static void theTapeIsEmptyAtFirst(Check check) {
        check.words("THE TAPE has bytes, none at first");
        check.due("end(1) at first", new StreamSeal().end(1), StreamSeal.REFUSED);
        check.due("end(0) at first", new StreamSeal().end(0), 0);
        check.due("take(1) at first", new StreamSeal().take(1), StreamSeal.REFUSED);
        check.due("key() at first", new StreamSeal().key(), StreamSeal.REFUSED);
        check.due("seal(1) at first", new StreamSeal().seal(1), StreamSeal.REFUSED);
        check.due("open(0) at first", new StreamSeal().open(0), StreamSeal.REFUSED);
        check.due("feed at first", new StreamSeal().feed(1, 2, 3, 4, 5), 20);
        Scene.tapeIs(check, "at first", new StreamSeal(), NOTHING);
    }

    private static void outIsEmptyAtFirst(Check check) {
        check.words("OUT has bytes, none at first");
        check.due("octet(-1) at first", new StreamSeal().octet(-1), 0);
        check.due("octet(0) at first", new StreamSeal().octet(0), StreamSeal.NONE);
        check.due("take(0) at first", new StreamSeal().take(0), 0);
        Scene.outIs(check, "at first", new StreamSeal(), NOTHING);
    }

    private static void theKeyIsZeroAtFirst(Check check) {
        check.words("THE KEY: 32 bytes, .. all 0 at first");
        StreamSeal x = new StreamSeal();
        Hands.put(x, Bytes.mixed(1, 40));
        check.due("mac() at first", x.mac(), 32);
        check.due("OUT of mac() at first", Hands.out(x), Reference.mac(ZERO_KEY, Bytes.mixed(1, 40)));
        Hands.put(x, Bytes.mixed(1, 40));
        check.due("sum() at first", x.sum(), 16);
        check.due("OUT of sum() at first", Hands.out(x), new byte[16]);
        StreamSeal y = new StreamSeal();
        Hands.setNonce(y, Bytes.mixed(2, 12));
        y.stream(1);
        check.due("stream(1) before any key", Hands.out(y), Reference.stream(ZERO_KEY, Bytes.mixed(2, 12), 1));
    }

    private static void theNonceIsZeroAtFirst(Check check) {
        check.words("THE NONCE: 12 bytes, all 0 at first");
        StreamSeal x = new StreamSeal();
        x.stream(0);
        // RFC 8439, A.1, test vector 1
        check.due("stream(0) at first", Hands.out(x),
                "76b8e0ada0f13d90405d6ae55386bd28bdd219b8a08ded1aa836efcc8b770dc7"
                + "da41597c5157488d7724e03fb8d84a376a43b8f41518a11cc387b669b2ee6586");
        StreamSeal y = new StreamSeal();
        Hands.setKey(y, Bytes.mixed(3, 32));
        y.stream(1);
        check.due("stream(1) before any nonce", Hands.out(y), Reference.stream(Bytes.mixed(3, 32), ZERO_NONCE, 1));
    }

    private static void objectsShareNothing(Check check) {
        check.words("A new object: As said above");
        StreamSeal x = Scene.with(Bytes.mixed(3, 40));
        StreamSeal y = new StreamSeal();
        Scene.holds(check, "in another object", y, NOTHING, NOTHING, ZERO_KEY, ZERO_NONCE);
        Scene.holds(check, "in the first object", x, Bytes.mixed(3, 40), Scene.OUT);
    }

    /** 507 calls, the dearest among them; the TAPE has 32 bytes then and OUT 64. */
    private static StreamSeal nearlyUsed() {
        StreamSeal x = new StreamSeal();
        for (int i = 0; i < 12; i++) {
            for (int j = 0; j < 40; j++) {
                x.feed(-1, i, j, i, j);
            }
            x.seal(i);
        }
        for (int i = 0; i < 11; i++) {
            x.octet(i);
        }
        x.stream(3);
        x.feed(1, 2, 3, 4, 5);
        x.feed(6, 7, 8, 9, 10);
        x.end(32);
        return x;
    }

    private static StreamSeal withOneCallLeft() {
        StreamSeal x = nearlyUsed();
        for (int i = 0; i < 4; i++) {
            x.octet(i);
        }
        return x;
    }

    private static StreamSeal withTwoCallsLeft() {
        StreamSeal x = nearlyUsed();
        for (int i = 0; i < 3; i++) {
            x.octet(i);
        }
        return x;
    }

    private static void theLastPromisedCallAnswers(Check check) {
        check.words("An object is used for at most 512 calls after it has been made");
        check.due("feed, call 512", withOneCallLeft().feed(1, 2, 3, 4, 5), 52);
        check.due("end(31), call 512", withOneCallLeft().end(31), 31);
        check.due("end(33), call 512", withOneCallLeft().end(33), StreamSeal.REFUSED);
        check.due("take(32), call 512", withOneCallLeft().take(32), 96);
        check.due("key(), call 512", withOneCallLeft().key(), 0);
        check.due("stream(1), call 512", withOneCallLeft().stream(1), 64);
        check.due("sum(), call 512", withOneCallLeft().sum(), 16);
        check.due("seal(0), call 512", withOneCallLeft().seal(0), 48);
        check.due("open(16), call 512", withOneCallLeft().open(16), StreamSeal.NONE);
        check.due("open(17), call 512", withOneCallLeft().open(17), StreamSeal.REFUSED);
        check.due("digest(), call 512", withOneCallLeft().digest(), 32);
        check.due("mac(), call 512", withOneCallLeft().mac(), 32);
        check.due("octet(-1), call 512", withOneCallLeft().octet(-1), 64);
        check.due("octet(63), call 512", withOneCallLeft().octet(63),
                Reference.stream(ZERO_KEY, ZERO_NONCE, 3)[63] & 255);
    }

    private static void whatTheLastPromisedCallsLeave(Check check) {
        check.words("An object is used for at most 512 calls after it has been made");
        byte[] tape = Bytes.hex("00000001 00000002 00000003 00000004 00000005 00000006 00000007 00000008");
        StreamSeal x = withTwoCallsLeft();
        x.stream(-1);
        check.due("octet(63) of stream(-1), call 512", x.octet(63),
                Reference.stream(ZERO_KEY, ZERO_NONCE, -1)[63] & 255);
        x = withTwoCallsLeft();
        x.seal(5);
        byte[] sealed = Reference.seal(ZERO_KEY, ZERO_NONCE, Arrays.copyOf(tape, 5),
                Arrays.copyOfRange(tape, 5, 32));
        check.due("octet(42) of seal(5), call 512", x.octet(42), sealed[42] & 255);
        x = withTwoCallsLeft();
        x.digest();
        check.due("octet(31) of digest(), call 512", x.octet(31), Reference.digest(tape)[31] & 255);
        x = withTwoCallsLeft();
        x.mac();
        check.due("octet(31) of mac(), call 512", x.octet(31), Reference.mac(ZERO_KEY, tape)[31] & 255);
        x = withTwoCallsLeft();
        x.take(32);
        check.due("end(96) behind take(32), call 512", x.end(96), 96);
    }

    private static void theFaceIsTheDocuments(Check check) {
        check.words("The public face");
        check.due("REFUSED", StreamSeal.REFUSED, -1);
        check.due("NONE", StreamSeal.NONE, -2);
        check.due("FULL", StreamSeal.FULL, -3);
        Set<String> seen = new TreeSet<>();
        for (Field field : StreamSeal.class.getDeclaredFields()) {
            if (!Modifier.isPrivate(field.getModifiers())) {
                seen.add(field.toString());
            }
        }
        for (Method method : StreamSeal.class.getDeclaredMethods()) {
            if (!Modifier.isPrivate(method.getModifiers())) {
                seen.add(method.toString());
            }
        }
        for (Constructor<?> constructor : StreamSeal.class.getDeclaredConstructors()) {
            seen.add(constructor.toString());
        }
        Set<String> face = new TreeSet<>(Set.of(
                "public static final int StreamSeal.REFUSED",
                "public static final int StreamSeal.NONE",
                "public static final int StreamSeal.FULL",
                "public StreamSeal()",
                "public int StreamSeal.feed(int,int,int,int,int)",
                "public int StreamSeal.end(int)",
                "public int StreamSeal.take(int)",
                "public int StreamSeal.key()",
                "public void StreamSeal.nonce(int,long)",
                "public int StreamSeal.stream(int)",
                "public int StreamSeal.sum()",
                "public int StreamSeal.seal(int)",
                "public int StreamSeal.open(int)",
                "public int StreamSeal.digest()",
                "public int StreamSeal.mac()",
                "public int StreamSeal.octet(int)"));
        if (!seen.equals(face)) {
            System.out.println("the face is " + seen);
        }
        check.due("the face is the document's", seen.equals(face) ? 1 : 0, 1);
        check.due("the class is public and final",
                StreamSeal.class.getModifiers(), Modifier.PUBLIC | Modifier.FINAL);
    }
}
