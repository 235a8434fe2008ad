import java.util.Arrays;

/**
 * Bytes sealed and opened again, by a stream and a sum (ChaCha20, Poly1305),
 * digests (SHA-256) and what proves a key.
 *
 * Every row of bytes or numbers is made by the constructor and used again by
 * each call, so that a long run of calls makes nothing new.
 */
public final class StreamSeal {
    public static final int REFUSED = -1, NONE = -2, FULL = -3;

    private static final int TAPE_LIMIT = 800;
    private static final int FEED_SIZE = 20;
    private static final int KEY_SIZE = 32;
    private static final int NONCE_SIZE = 12;
    private static final int STREAM_SIZE = 64;
    private static final int SUM_SIZE = 16;
    private static final int DIGEST_SIZE = 32;
    private static final int INNER_MASK = 54;
    private static final int OUTER_MASK = 92;

    private final byte[] tape;
    private int tapeSize;
    private final byte[] out;
    private int outSize;
    private final byte[] keyBytes;
    private final byte[] nonceBytes;
    private final byte[] streamBytes;
    private final byte[] sizeBytes;
    private final byte[] sumBytes;
    private final ChaCha20 streamer;
    private final Poly1305 summer;
    private final Sha256 digester;

    public StreamSeal() {
        tape = new byte[TAPE_LIMIT];
        tapeSize = 0;
        // The longest OUT is a full TAPE sealed, which its sum makes longer than a TAPE can be.
        out = new byte[TAPE_LIMIT + SUM_SIZE];
        outSize = 0;
        keyBytes = new byte[KEY_SIZE];
        nonceBytes = new byte[NONCE_SIZE];
        streamBytes = new byte[STREAM_SIZE];
        sizeBytes = new byte[SUM_SIZE];
        sumBytes = new byte[SUM_SIZE];
        streamer = new ChaCha20();
        summer = new Poly1305();
        digester = new Sha256();
    }

    public int feed(int a, int b, int c, int d, int e) {
        if (tapeSize > TAPE_LIMIT - FEED_SIZE) {
            return FULL;
        }
        writeHighestFirst(tape, tapeSize, a);
        writeHighestFirst(tape, tapeSize + 4, b);
        writeHighestFirst(tape, tapeSize + 8, c);
        writeHighestFirst(tape, tapeSize + 12, d);
        writeHighestFirst(tape, tapeSize + 16, e);
        tapeSize += FEED_SIZE;
        return tapeSize;
    }

    public int end(int n) {
        if (!tapeReaches(n)) {
            return REFUSED;
        }
        tapeSize = n;
        return n;
    }

    public int take(int n) {
        if (!tapeReaches(n)) {
            return REFUSED;
        }
        if (n + outSize > TAPE_LIMIT) {
            return FULL;
        }
        System.arraycopy(out, 0, tape, n, outSize);
        tapeSize = n + outSize;
        return tapeSize;
    }

    public int key() {
        boolean fits = tapeSize == KEY_SIZE;
        if (fits) {
            System.arraycopy(tape, 0, keyBytes, 0, KEY_SIZE);
        }
        tapeSize = 0;
        return fits ? 0 : REFUSED;
    }

    public void nonce(int a, long b) {
        writeHighestFirst(nonceBytes, 0, a);
        writeHighestFirst(nonceBytes, 4, (int) (b >>> 32));
        writeHighestFirst(nonceBytes, 8, (int) b);
    }

    public int stream(int c) {
        streamer.fill(out, keyBytes, nonceBytes, c);
        outSize = STREAM_SIZE;
        return outSize;
    }

    public int sum() {
        summer.start(keyBytes);
        summer.add(tape, 0, tapeSize);
        summer.finish(out, 0);
        outSize = SUM_SIZE;
        tapeSize = 0;
        return outSize;
    }

    public int seal(int n) {
        if (!tapeReaches(n)) {
            return REFUSED;
        }
        int size = tapeSize - n;
        streamTapeToOut(n, size);
        sumSealed(n, out, 0, size);
        System.arraycopy(sumBytes, 0, out, size, SUM_SIZE);
        outSize = size + SUM_SIZE;
        tapeSize = 0;
        return outSize;
    }

    public int open(int n) {
        // Said with a minus: n + SUM_SIZE would wrap around for the highest n.
        if (n < 0 || n > tapeSize - SUM_SIZE) {
            return REFUSED;
        }
        int size = tapeSize - SUM_SIZE - n;
        sumSealed(n, tape, n, size);
        tapeSize = 0;
        if (!sumStandsAt(n + size)) {
            return NONE;
        }
        streamTapeToOut(n, size);
        outSize = size;
        return outSize;
    }

    public int digest() {
        digester.start();
        digester.add(tape, tapeSize);
        digester.finish(out);
        outSize = DIGEST_SIZE;
        tapeSize = 0;
        return outSize;
    }

    public int mac() {
        digester.start();
        digester.addMasked(keyBytes, INNER_MASK);
        digester.add(tape, tapeSize);
        digester.finish(out);
        // OUT holds the inner digest only until the outer one takes its place.
        digester.start();
        digester.addMasked(keyBytes, OUTER_MASK);
        digester.add(out, DIGEST_SIZE);
        digester.finish(out);
        outSize = DIGEST_SIZE;
        tapeSize = 0;
        return outSize;
    }

    public int octet(int k) {
        if (k == -1) {
            return outSize;
        }
        if (k < 0 || k >= outSize) {
            return NONE;
        }
        return out[k] & 255;
    }

    private boolean tapeReaches(int n) {
        return n >= 0 && n <= tapeSize;
    }

    /** Sealing and opening are the same step here, as exclusive or undoes itself. */
    private void streamTapeToOut(int from, int size) {
        int counter = 1;
        for (int done = 0; done < size; done += STREAM_SIZE) {
            streamer.fill(streamBytes, keyBytes, nonceBytes, counter);
            int part = Math.min(STREAM_SIZE, size - done);
            for (int i = 0; i < part; i++) {
                out[done + i] = (byte) (tape[from + done + i] ^ streamBytes[i]);
            }
            counter++;
        }
    }

    /** Leaves in sumBytes the sum over the first bytes of the TAPE and the sealed bytes of a row. */
    private void sumSealed(int headSize, byte[] sealed, int from, int size) {
        streamer.fill(streamBytes, keyBytes, nonceBytes, 0);
        summer.start(streamBytes);
        summer.addPadded(tape, 0, headSize);
        summer.addPadded(sealed, from, size);
        // The four high bytes of both sizes are never written: they stay 0.
        writeLowestFirst(sizeBytes, 0, headSize);
        writeLowestFirst(sizeBytes, 8, size);
        summer.add(sizeBytes, 0, SUM_SIZE);
        summer.finish(sumBytes, 0);
    }

    /** Looks at every byte, so that the work done does not tell where a forged sum goes wrong. */
    private boolean sumStandsAt(int at) {
        int difference = 0;
        for (int i = 0; i < SUM_SIZE; i++) {
            difference |= sumBytes[i] ^ tape[at + i];
        }
        return difference == 0;
    }

    private static void writeHighestFirst(byte[] row, int at, int value) {
        row[at] = (byte) (value >>> 24);
        row[at + 1] = (byte) (value >>> 16);
        row[at + 2] = (byte) (value >>> 8);
        row[at + 3] = (byte) value;
    }

    private static void writeLowestFirst(byte[] row, int at, int value) {
        row[at] = (byte) value;
        row[at + 1] = (byte) (value >>> 8);
        row[at + 2] = (byte) (value >>> 16);
        row[at + 3] = (byte) (value >>> 24);
    }

    private static int readHighestFirst(byte[] row, int at) {
        return ((row[at] & 255) << 24) | ((row[at + 1] & 255) << 16)
                | ((row[at + 2] & 255) << 8) | (row[at + 3] & 255);
    }

    private static int readLowestFirst(byte[] row, int at) {
        return (row[at] & 255) | ((row[at + 1] & 255) << 8)
                | ((row[at + 2] & 255) << 16) | ((row[at + 3] & 255) << 24);
    }

    private static int turnLeft(int value, int bits) {
        return (value << bits) | (value >>> (32 - bits));
    }

    private static int turnRight(int value, int bits) {
        return (value >>> bits) | (value << (32 - bits));
    }

    /** The block function of RFC 8439, 2.3. */
    private static final class ChaCha20 {
        private static final int WORDS = 16;
        private static final int DOUBLE_ROUNDS = 10;

        private final int[] first;
        private final int[] mixed;

        ChaCha20() {
            first = new int[WORDS];
            mixed = new int[WORDS];
        }

        /** Writes 64 bytes to the start of the row. */
        void fill(byte[] row, byte[] keyRow, byte[] nonceRow, int counter) {
            lay(keyRow, nonceRow, counter);
            System.arraycopy(first, 0, mixed, 0, WORDS);
            for (int i = 0; i < DOUBLE_ROUNDS; i++) {
                mixColumns();
                mixDiagonals();
            }
            for (int i = 0; i < WORDS; i++) {
                writeLowestFirst(row, 4 * i, mixed[i] + first[i]);
            }
        }

        private void lay(byte[] keyRow, byte[] nonceRow, int counter) {
            first[0] = 0x61707865;
            first[1] = 0x3320646e;
            first[2] = 0x79622d32;
            first[3] = 0x6b206574;
            for (int i = 0; i < 8; i++) {
                first[4 + i] = readLowestFirst(keyRow, 4 * i);
            }
            first[12] = counter;
            for (int i = 0; i < 3; i++) {
                first[13 + i] = readLowestFirst(nonceRow, 4 * i);
            }
        }

        private void mixColumns() {
            mixQuarter(0, 4, 8, 12);
            mixQuarter(1, 5, 9, 13);
            mixQuarter(2, 6, 10, 14);
            mixQuarter(3, 7, 11, 15);
        }

        private void mixDiagonals() {
            mixQuarter(0, 5, 10, 15);
            mixQuarter(1, 6, 11, 12);
            mixQuarter(2, 7, 8, 13);
            mixQuarter(3, 4, 9, 14);
        }

        private void mixQuarter(int a, int b, int c, int d) {
            mixed[a] += mixed[b];
            mixed[d] = turnLeft(mixed[d] ^ mixed[a], 16);
            mixed[c] += mixed[d];
            mixed[b] = turnLeft(mixed[b] ^ mixed[c], 12);
            mixed[a] += mixed[b];
            mixed[d] = turnLeft(mixed[d] ^ mixed[a], 8);
            mixed[c] += mixed[d];
            mixed[b] = turnLeft(mixed[b] ^ mixed[c], 7);
        }
    }

    /**
     * Poly1305 of RFC 8439, 2.5. Its numbers are below 2^130 and stand in five
     * parts of 26 bits, the lowest first: five products of two parts, one of
     * them times 5, still fit a long.
     */
    private static final class Poly1305 {
        private static final int PARTS = 5;
        private static final int PART_BITS = 26;
        private static final long PART_MASK = 0x3ffffffL;
        private static final long WORD_MASK = 0xffffffffL;
        private static final int BLOCK_SIZE = 16;

        private final long[] factor;
        private final long[] total;
        private final long[] product;
        private final long[] words;
        private final int[] last;
        private final byte[] block;

        Poly1305() {
            factor = new long[PARTS];
            total = new long[PARTS];
            product = new long[PARTS];
            words = new long[4];
            last = new int[4];
            // One byte more than a block has, for the 1 that is set behind its bytes.
            block = new byte[BLOCK_SIZE + 1];
        }

        /** The key is the first 32 bytes of the row. */
        void start(byte[] keyRow) {
            System.arraycopy(keyRow, 0, block, 0, BLOCK_SIZE);
            block[BLOCK_SIZE] = 0;
            clampBlock();
            for (int i = 0; i < PARTS; i++) {
                factor[i] = blockPart(i);
                total[i] = 0;
            }
            for (int i = 0; i < 4; i++) {
                last[i] = readLowestFirst(keyRow, BLOCK_SIZE + 4 * i);
            }
        }

        /** The last block may be short; nothing may be added behind a short one. */
        void add(byte[] row, int from, int size) {
            for (int done = 0; done < size; done += BLOCK_SIZE) {
                int part = Math.min(BLOCK_SIZE, size - done);
                addBlock(row, from + done, part, part);
            }
        }

        /** As add, but with 0s behind the bytes up to a multiple of 16. */
        void addPadded(byte[] row, int from, int size) {
            for (int done = 0; done < size; done += BLOCK_SIZE) {
                addBlock(row, from + done, Math.min(BLOCK_SIZE, size - done), BLOCK_SIZE);
            }
        }

        /** Writes 16 bytes to the row from the place on. */
        void finish(byte[] row, int at) {
            // The lowest part may be a little above its 26 bits still; the words need it within them.
            carry();
            takePrimeOff();
            words[0] = total[0] | (total[1] << 26);
            words[1] = (total[1] >>> 6) | (total[2] << 20);
            words[2] = (total[2] >>> 12) | (total[3] << 14);
            words[3] = (total[3] >>> 18) | (total[4] << 8);
            long over = 0;
            for (int i = 0; i < 4; i++) {
                over += (words[i] & WORD_MASK) + (last[i] & WORD_MASK);
                writeLowestFirst(row, at + 4 * i, (int) over);
                over >>>= 32;
            }
        }

        private void clampBlock() {
            for (int i = 3; i < BLOCK_SIZE; i += 4) {
                block[i] &= 15;
            }
            for (int i = 4; i < BLOCK_SIZE; i += 4) {
                block[i] &= (byte) 252;
            }
        }

        /** The parts begin at bits 0, 26, 52, 78, 104: each lies within four bytes of the block. */
        private long blockPart(int i) {
            int bit = PART_BITS * i;
            int word = readLowestFirst(block, bit >>> 3);
            return ((word & WORD_MASK) >>> (bit & 7)) & PART_MASK;
        }

        private void addBlock(byte[] row, int from, int size, int onePlace) {
            Arrays.fill(block, (byte) 0);
            System.arraycopy(row, from, block, 0, size);
            block[onePlace] = 1;
            for (int i = 0; i < PARTS; i++) {
                total[i] += blockPart(i);
            }
            multiply();
        }

        private void multiply() {
            for (int i = 0; i < PARTS; i++) {
                long straight = 0;
                long wrapped = 0;
                for (int j = 0; j <= i; j++) {
                    straight += total[j] * factor[i - j];
                }
                for (int j = i + 1; j < PARTS; j++) {
                    wrapped += total[j] * factor[i - j + PARTS];
                }
                // 2^130 is 5 more than the prime, so what goes beyond it comes back times 5.
                product[i] = straight + 5 * wrapped;
            }
            System.arraycopy(product, 0, total, 0, PARTS);
            // What the first carry brings back makes the lowest part long; the second leaves it
            // at most 5 above what 26 bits hold.
            carry();
            carry();
        }

        private void carry() {
            long over = 0;
            for (int i = 0; i < PARTS; i++) {
                long value = total[i] + over;
                total[i] = value & PART_MASK;
                over = value >>> PART_BITS;
            }
            total[0] += 5 * over;
        }

        /** The total is at least the prime, 2^130 - 5, just if 5 more reaches 2^130. */
        private void takePrimeOff() {
            long over = 5;
            for (int i = 0; i < PARTS; i++) {
                long value = total[i] + over;
                product[i] = value & PART_MASK;
                over = value >>> PART_BITS;
            }
            if (over != 0) {
                System.arraycopy(product, 0, total, 0, PARTS);
            }
        }
    }

    /** SHA-256 of FIPS 180-4. */
    private static final class Sha256 {
        private static final int BLOCK_SIZE = 64;
        private static final int SIZE_PLACE = 56;
        private static final int ROUNDS = 64;
        private static final int WORDS = 8;

        private static final int[] FIRST = {
            0x6a09e667, 0xbb67ae85, 0x3c6ef372, 0xa54ff53a,
            0x510e527f, 0x9b05688c, 0x1f83d9ab, 0x5be0cd19
        };

        private static final int[] ADDED = {
            0x428a2f98, 0x71374491, 0xb5c0fbcf, 0xe9b5dba5, 0x3956c25b, 0x59f111f1, 0x923f82a4, 0xab1c5ed5,
            0xd807aa98, 0x12835b01, 0x243185be, 0x550c7dc3, 0x72be5d74, 0x80deb1fe, 0x9bdc06a7, 0xc19bf174,
            0xe49b69c1, 0xefbe4786, 0x0fc19dc6, 0x240ca1cc, 0x2de92c6f, 0x4a7484aa, 0x5cb0a9dc, 0x76f988da,
            0x983e5152, 0xa831c66d, 0xb00327c8, 0xbf597fc7, 0xc6e00bf3, 0xd5a79147, 0x06ca6351, 0x14292967,
            0x27b70a85, 0x2e1b2138, 0x4d2c6dfc, 0x53380d13, 0x650a7354, 0x766a0abb, 0x81c2c92e, 0x92722c85,
            0xa2bfe8a1, 0xa81a664b, 0xc24b8b70, 0xc76c51a3, 0xd192e819, 0xd6990624, 0xf40e3585, 0x106aa070,
            0x19a4c116, 0x1e376c08, 0x2748774c, 0x34b0bcb5, 0x391c0cb3, 0x4ed8aa4a, 0x5b9cca4f, 0x682e6ff3,
            0x748f82ee, 0x78a5636f, 0x84c87814, 0x8cc70208, 0x90befffa, 0xa4506ceb, 0xbef9a3f7, 0xc67178f2
        };

        private final int[] state;
        private final int[] schedule;
        private final int[] round;
        private final byte[] block;
        private int filled;
        private int size;

        Sha256() {
            state = new int[WORDS];
            schedule = new int[ROUNDS];
            round = new int[WORDS];
            block = new byte[BLOCK_SIZE];
            filled = 0;
            size = 0;
        }

        void start() {
            System.arraycopy(FIRST, 0, state, 0, WORDS);
            filled = 0;
            size = 0;
        }

        void add(byte[] row, int count) {
            for (int i = 0; i < count; i++) {
                addByte(row[i]);
            }
        }

        /** One whole block: the key and 0s behind it, each byte by exclusive or with the mask. */
        void addMasked(byte[] keyRow, int mask) {
            for (int i = 0; i < BLOCK_SIZE; i++) {
                addByte((byte) (i < keyRow.length ? keyRow[i] ^ mask : mask));
            }
        }

        /** Writes 32 bytes to the start of the row. */
        void finish(byte[] row) {
            int bits = size * 8;
            addByte((byte) 128);
            int zeros = (SIZE_PLACE - filled) & (BLOCK_SIZE - 1);
            // The four high bytes of the size are 0 too: a TAPE is far too short to need them.
            for (int i = 0; i < zeros + 4; i++) {
                addByte((byte) 0);
            }
            for (int shift = 24; shift >= 0; shift -= 8) {
                addByte((byte) (bits >>> shift));
            }
            for (int i = 0; i < WORDS; i++) {
                writeHighestFirst(row, 4 * i, state[i]);
            }
        }

        private void addByte(byte value) {
            block[filled] = value;
            filled++;
            size++;
            if (filled == BLOCK_SIZE) {
                filled = 0;
                spreadBlock();
                mixBlock();
            }
        }

        private void spreadBlock() {
            for (int i = 0; i < 16; i++) {
                schedule[i] = readHighestFirst(block, 4 * i);
            }
            for (int i = 16; i < ROUNDS; i++) {
                int near = schedule[i - 2];
                int far = schedule[i - 15];
                int nearMix = turnRight(near, 17) ^ turnRight(near, 19) ^ (near >>> 10);
                int farMix = turnRight(far, 7) ^ turnRight(far, 18) ^ (far >>> 3);
                schedule[i] = nearMix + schedule[i - 7] + farMix + schedule[i - 16];
            }
        }

        private void mixBlock() {
            System.arraycopy(state, 0, round, 0, WORDS);
            for (int i = 0; i < ROUNDS; i++) {
                mixRound(schedule[i] + ADDED[i]);
            }
            for (int i = 0; i < WORDS; i++) {
                state[i] += round[i];
            }
        }

        private void mixRound(int added) {
            int a = round[0];
            int e = round[4];
            int choice = (e & round[5]) ^ (~e & round[6]);
            int majority = (a & round[1]) ^ (a & round[2]) ^ (round[1] & round[2]);
            int low = round[7] + (turnRight(e, 6) ^ turnRight(e, 11) ^ turnRight(e, 25)) + choice + added;
            int high = (turnRight(a, 2) ^ turnRight(a, 13) ^ turnRight(a, 22)) + majority;
            for (int i = WORDS - 1; i > 0; i--) {
                round[i] = round[i - 1];
            }
            round[4] += low;
            round[0] = low + high;
        }
    }
}
