/** Promise 2: feed. */
public final class FeedTest {
    public static void main(String[] args) {
        Check check = new Check();
        bytesComeHighestFirst(check);
        bytesComeBehindThoseBefore(check);
        fullAtEightHundred(check);
        fullFromSevenHundredEightyOne(check);
        check.end();
    }

    private static void bytesComeHighestFirst(Check check) {
        StreamSeal x = new StreamSeal();
        check.due("feed", x.feed(0x01020304, 0xf0e0d0c0, Integer.MIN_VALUE, Integer.MAX_VALUE, -1), 20);
        x.digest();
        check.due("H(20 bytes)", Hands.out(x),
                Reference.digest(Bytes.hex("01020304 f0e0d0c0 80000000 7fffffff ffffffff")));
    }

    private static void bytesComeBehindThoseBefore(Check check) {
        StreamSeal x = new StreamSeal();
        x.feed(1, 2, 3, 4, 5);
        x.end(7);
        check.due("feed behind 7", x.feed(6, 7, 8, 9, 10), 27);
        x.digest();
        check.due("H(27 bytes)", Hands.out(x), Reference.digest(Bytes.hex(
                "00000001 000000 00000006 00000007 00000008 00000009 0000000a")));
        check.due("feed to an emptied TAPE", x.feed(0, 0, 0, 0, 0), 20);
    }

    private static void fullAtEightHundred(Check check) {
        StreamSeal x = new StreamSeal();
        byte[] row = Bytes.mixed(4, 800);
        for (int at = 0; at < 800; at += 20) {
            check.due("feed at " + at, x.feed(Bytes.intAt(row, at), Bytes.intAt(row, at + 4),
                    Bytes.intAt(row, at + 8), Bytes.intAt(row, at + 12), Bytes.intAt(row, at + 16)), at + 20);
        }
        check.due("feed at 800", x.feed(1, 2, 3, 4, 5), StreamSeal.FULL);
        check.due("feed at 800 again", x.feed(0, 0, 0, 0, 0), StreamSeal.FULL);
        check.due("end(800)", x.end(800), 800);
        x.digest();
        check.due("H(800 bytes)", Hands.out(x), Reference.digest(row));
    }

    private static void fullFromSevenHundredEightyOne(Check check) {
        StreamSeal x = new StreamSeal();
        byte[] row = Bytes.mixed(5, 781);
        Hands.put(x, row);
        check.due("feed at 781", x.feed(1, 2, 3, 4, 5), StreamSeal.FULL);
        check.due("end(782) behind a FULL feed", x.end(782), StreamSeal.REFUSED);
        check.due("end(780)", x.end(780), 780);
        check.due("feed at 780", x.feed(0, 0, 0, 0, 0), 800);
        check.due("end(781)", x.end(781), 781);
        row[780] = 0;
        x.digest();
        check.due("H(781 bytes)", Hands.out(x), Reference.digest(row));
    }
}
