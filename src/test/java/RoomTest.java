import com.sun.management.ThreadMXBean;
import java.lang.management.ManagementFactory;

/** The room: no call makes anything new, and an object of the class is small. */
public final class RoomTest {
    /** Two rounds are some 400 calls, nearly as many as an object is promised for. */
    private static final int ROUNDS = 2;
    private static final int OBJECTS = 100;
    private static final ThreadMXBean THREADS = (ThreadMXBean) ManagementFactory.getThreadMXBean();

    public static void main(String[] args) {
        Check check = new Check();
        check.words("All calls of one run live in one room");
        // The first calls load classes, which is not what is to be measured.
        madeByCalls(check);
        long made = 0;
        for (int i = 0; i < OBJECTS; i++) {
            made += madeByCalls(check);
        }
        atMost(check, "calls on " + OBJECTS + " objects", made, 8192);
        long before = THREADS.getCurrentThreadAllocatedBytes();
        new StreamSeal();
        atMost(check, "a new object", THREADS.getCurrentThreadAllocatedBytes() - before, 8192);
        check.end();
    }

    private static void atMost(Check check, String what, long made, long most) {
        if (made > most) {
            System.out.println(what + " made " + made + " bytes, " + most + " are the most");
        }
        check.due(what + " within the room", made <= most ? 1 : 0, 1);
    }

    private static long madeByCalls(Check check) {
        StreamSeal x = new StreamSeal();
        long before = THREADS.getCurrentThreadAllocatedBytes();
        long answers = 0;
        for (int i = 0; i < ROUNDS; i++) {
            answers += dearCalls(x);
        }
        long made = THREADS.getCurrentThreadAllocatedBytes() - before;
        check.due("the answers added up", answers, ROUNDS * (16 + 416 + 800 - 2 + 32 + 32 + 64));
        return made;
    }

    private static long dearCalls(StreamSeal x) {
        long answers = 0;
        fill(x);
        answers += x.sum();
        fill(x);
        answers += x.seal(400);
        fill(x);
        answers += x.take(384);
        answers += x.open(3);
        fill(x);
        answers += x.digest();
        fill(x);
        answers += x.mac();
        x.nonce(1, 2);
        answers += x.stream(3);
        return answers;
    }

    private static void fill(StreamSeal x) {
        for (int i = 0; i < 40; i++) {
            x.feed(i, i, i, i, i);
        }
    }
}
