import java.lang.reflect.Constructor;
import java.lang.reflect.Field;
import java.lang.reflect.Method;
import java.lang.reflect.Modifier;
import java.util.Set;
import java.util.TreeSet;

/** Promise 1, the face and the first words of the terms. */
public final class NewObjectTest {
    public static void main(String[] args) {
        Check check = new Check();
        nothingIsThereAtFirst(check);
        keyAndNonceAreZeroAtFirst(check);
        objectsShareNothing(check);
        theFaceIsTheDocuments(check);
        check.end();
    }

    private static void nothingIsThereAtFirst(Check check) {
        StreamSeal x = new StreamSeal();
        check.due("octet(-1) at first", x.octet(-1), 0);
        check.due("octet(0) at first", x.octet(0), StreamSeal.NONE);
        check.due("end(1) at first", x.end(1), StreamSeal.REFUSED);
        check.due("end(0) at first", x.end(0), 0);
        check.due("take(0) at first", x.take(0), 0);
        check.due("feed at first", x.feed(1, 2, 3, 4, 5), 20);
    }

    private static void keyAndNonceAreZeroAtFirst(Check check) {
        StreamSeal x = new StreamSeal();
        x.stream(0);
        // RFC 8439, A.1, test vector 1
        check.due("stream(0) at first", Hands.out(x),
                "76b8e0ada0f13d90405d6ae55386bd28bdd219b8a08ded1aa836efcc8b770dc7"
                + "da41597c5157488d7724e03fb8d84a376a43b8f41518a11cc387b669b2ee6586");
        x.mac();
        check.due("mac() at first", Hands.out(x), Reference.mac(new byte[32], new byte[0]));
        x.sum();
        check.due("sum() at first", Hands.out(x), new byte[16]);
    }

    private static void objectsShareNothing(Check check) {
        StreamSeal x = Hands.made(Bytes.mixed(1, 32), Bytes.mixed(2, 12), Bytes.mixed(3, 40));
        StreamSeal y = new StreamSeal();
        x.stream(5);
        check.due("octet(-1) of another object", y.octet(-1), 0);
        check.due("end(1) of another object", y.end(1), StreamSeal.REFUSED);
        y.stream(7);
        check.due("stream(7) of another object", Hands.out(y), Reference.stream(new byte[32], new byte[12], 7));
        check.due("OUT of the first object", Hands.out(x),
                Reference.stream(Bytes.mixed(1, 32), Bytes.mixed(2, 12), 5));
    }

    private static void theFaceIsTheDocuments(Check check) {
        check.due("REFUSED", StreamSeal.REFUSED, -1);
        check.due("NONE", StreamSeal.NONE, -2);
        check.due("FULL", StreamSeal.FULL, -3);
        Set<String> seen = new TreeSet<>();
        for (Field field : StreamSeal.class.getDeclaredFields()) {
            if (!Modifier.isPrivate(field.getModifiers())) {
                seen.add(field.toString());
            }
        }
        for (Method method : StreamSeal.class.getDeclaredMethods()) {
            if (!Modifier.isPrivate(method.getModifiers())) {
                seen.add(method.toString());
            }
        }
        for (Constructor<?> constructor : StreamSeal.class.getDeclaredConstructors()) {
            seen.add(constructor.toString());
        }
        Set<String> face = new TreeSet<>(Set.of(
                "public static final int StreamSeal.REFUSED",
                "public static final int StreamSeal.NONE",
                "public static final int StreamSeal.FULL",
                "public StreamSeal()",
                "public int StreamSeal.feed(int,int,int,int,int)",
                "public int StreamSeal.end(int)",
                "public int StreamSeal.take(int)",
                "public int StreamSeal.key()",
                "public void StreamSeal.nonce(int,long)",
                "public int StreamSeal.stream(int)",
                "public int StreamSeal.sum()",
                "public int StreamSeal.seal(int)",
                "public int StreamSeal.open(int)",
                "public int StreamSeal.digest()",
                "public int StreamSeal.mac()",
                "public int StreamSeal.octet(int)"));
        if (!seen.equals(face)) {
            System.out.println("the face is " + seen);
        }
        check.due("the face is the document's", seen.equals(face) ? 1 : 0, 1);
        check.due("the class is public and final",
                StreamSeal.class.getModifiers(), Modifier.PUBLIC | Modifier.FINAL);
    }
}
