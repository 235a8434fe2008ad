import java.util.Arrays;

/** Promise 2: feed. */
public final class FeedTest {
    public static void main(String[] args) {
        Check check = new Check();
        bytesComeHighestFirst(check);
        bytesComeBehindThoseBefore(check);
        cutBytesAreWrittenOver(check);
        answersHowManyItHas(check);
        eightHundredIsNotFull(check);
        oneByteMoreThanEightHundredIsFull(check);
        anyMoreThanEightHundredIsFull(check);
        fullLeavesAllAsItIs(check);
        aCutMakesRoomAgain(check);
        nothingElseChanges(check);
        check.end();
    }

    private static int feed(StreamSeal x, byte[] row, int at) {
        return x.feed(Bytes.intAt(row, at), Bytes.intAt(row, at + 4), Bytes.intAt(row, at + 8),
                Bytes.intAt(row, at + 12), Bytes.intAt(row, at + 16));
    }

    private static void bytesComeHighestFirst(Check check) {
        check.words("Twenty bytes, five times four, the highest of each first");
        StreamSeal x = new StreamSeal();
        check.due("feed", x.feed(0x01020304, 0xf0e0d0c0, Integer.MIN_VALUE, Integer.MAX_VALUE, -1), 20);
        Scene.tapeIs(check, "behind feed", x, Bytes.hex("01020304 f0e0d0c0 80000000 7fffffff ffffffff"));
        check.due("feed of 0s", x.feed(0, 0, 0, 0, 0), 20);
        Scene.tapeIs(check, "behind feed of 0s", x, new byte[20]);
    }

    private static void bytesComeBehindThoseBefore(Check check) {
        check.words("come to the TAPE");
        StreamSeal x = new StreamSeal();
        x.feed(1, 2, 3, 4, 5);
        check.due("feed behind 20", x.feed(6, 7, 8, 9, 10), 40);
        Scene.tapeIs(check, "behind two feeds", x, Bytes.hex(
                "00000001 00000002 00000003 00000004 00000005 00000006 00000007 00000008 00000009 0000000a"));
    }

    private static void cutBytesAreWrittenOver(Check check) {
        check.words("come to the TAPE (behind a cut)");
        for (int n = 0; n <= 20; n++) {
            StreamSeal x = new StreamSeal();
            byte[] before = Bytes.mixed(4, 40);
            Hands.put(x, before);
            x.end(n);
            check.due("feed behind end(" + n + ")", x.feed(-1, 0, -1, 0, -1), n + 20);
            Scene.tapeIs(check, "behind end(" + n + ") and feed", x, Bytes.join(Arrays.copyOf(before, n),
                    Bytes.hex("ffffffff 00000000 ffffffff 00000000 ffffffff")));
        }
    }

    private static void answersHowManyItHas(Check check) {
        check.words("how many it has");
        StreamSeal x = new StreamSeal();
        for (int at = 0; at < 800; at += 20) {
            check.due("feed at " + at, x.feed(at, 0, -1, 1, at), at + 20);
        }
        for (int size = 0; size <= 780; size++) {
            StreamSeal y = new StreamSeal();
            Hands.put(y, new byte[size]);
            check.due("feed at " + size, y.feed(1, 2, 3, 4, 5), size + 20);
        }
    }

    private static void eightHundredIsNotFull(Check check) {
        check.words("FULL if it would have more than 800 (800 are not more)");
        byte[] row = Bytes.mixed(5, 800);
        StreamSeal x = new StreamSeal();
        Hands.put(x, Arrays.copyOf(row, 780));
        check.due("feed at 780", feed(x, row, 780), 800);
        Scene.tapeIs(check, "behind feed at 780", x, row);
    }

    private static void oneByteMoreThanEightHundredIsFull(Check check) {
        check.words("FULL if it would have more than 800 (by one)");
        byte[] row = Bytes.mixed(6, 781);
        StreamSeal x = Scene.with(row);
        check.due("feed at 781", x.feed(1, 2, 3, 4, 5), StreamSeal.FULL);
        Scene.holds(check, "behind feed at 781", x, row, Scene.OUT);
    }

    private static void anyMoreThanEightHundredIsFull(Check check) {
        check.words("FULL if it would have more than 800 (by up to twenty)");
        for (int size = 782; size <= 800; size++) {
            StreamSeal x = new StreamSeal();
            Hands.put(x, new byte[size]);
            check.due("feed at " + size, x.feed(-1, -1, -1, -1, -1), StreamSeal.FULL);
            check.due("end behind feed at " + size, x.end(size + 1), StreamSeal.REFUSED);
            check.due("feed at " + size + " again", x.feed(0, 0, 0, 0, 0), StreamSeal.FULL);
            check.due("end behind feed at " + size + " again", x.end(size), size);
        }
    }

    private static void fullLeavesAllAsItIs(Check check) {
        check.words("at most 800");
        byte[] row = Bytes.mixed(7, 800);
        StreamSeal x = Scene.with(row);
        for (int i = 0; i < 41; i++) {
            check.due("feed at 800", x.feed(i, -1, i, -1, i), StreamSeal.FULL);
        }
        Scene.holds(check, "behind feeds at 800", x, row, Scene.OUT);
    }

    private static void aCutMakesRoomAgain(Check check) {
        check.words("FULL if it would have more than 800 (not behind a cut)");
        byte[] row = Bytes.mixed(8, 800);
        StreamSeal x = Scene.with(row);
        check.due("feed at 800", x.feed(1, 2, 3, 4, 5), StreamSeal.FULL);
        x.end(781);
        check.due("feed at 781", x.feed(1, 2, 3, 4, 5), StreamSeal.FULL);
        x.end(780);
        check.due("feed at 780", x.feed(1, 2, 3, 4, 5), 800);
        Scene.tapeIs(check, "behind the feed that had room", x, Bytes.join(Arrays.copyOf(row, 780),
                Bytes.hex("00000001 00000002 00000003 00000004 00000005")));
    }

    private static void nothingElseChanges(Check check) {
        check.words("come to the TAPE (to nothing else)");
        StreamSeal x = Scene.with(new byte[0]);
        x.feed(-1, -1, -1, -1, -1);
        Scene.holds(check, "behind feed", x, Bytes.repeat(255, 20), Scene.OUT);
    }
}
