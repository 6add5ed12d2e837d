import java.util.Arrays;
import java.util.NoSuchElementException;

/**
 * A file system on a disk that lies. Blocks are held as rows of 64 words, the highest byte of a
 * word first: every field of the document's layout but the bytes of files and names is made of
 * whole words, and so are the steps of AES and SHA-256.
 */
public final class LyingDisk {
    private static final int MOST_BLOCKS = 1024;
    private static final int LEAST_BLOCKS = 64;
    private static final int BLOCK_BYTES = 256;
    private static final int BLOCK_WORDS = 64;
    private static final int POINTER_WORDS = 9;
    private static final int DIGEST_WORDS = 8;
    private static final int TREES_IN_NODE = 7;
    private static final int NONE = -1;

    private static final int INODES_IN_TABLE = 128;
    private static final int INODES_IN_BLOCK = 4;
    private static final int INODE_WORDS = 16;
    private static final int TREE_IN_INODE = 2;
    private static final int TABLE_HEIGHT = 2;
    private static final int ENTRY_BYTES = 32;
    private static final int ENTRY_WORDS = 8;
    private static final int ENTRIES_IN_BLOCK = 8;
    private static final int MOST_ENTRIES = 64;
    private static final int MOST_SIZE = 65536;
    private static final int MOST_READ = 4096;

    private static final int FILE = 1;
    private static final int DIRECTORY = 2;

    /** What a block holds tells which POINTERS are in it. */
    private static final int DATA = 0;
    private static final int NODE = 1;
    private static final int INODES = 2;
    private static final int UNREAD = 3;

    private static final int FOUND = 0;
    private static final int LAST_MISSING = 1;
    private static final int TAMPERED = -1;
    private static final int POWER_FAILED = -2;
    private static final int NOT_MOUNTED = -3;
    private static final int NO_PATH = -4;
    private static final int ABSENT = -5;
    private static final int PRESENT = -6;
    private static final int UNFIT = -7;
    private static final int IN_USE = -8;
    private static final int FULL = -9;
    private static final int TOO_MUCH = -10;

    private static final int TAPE_BYTES = 65536;
    private static final int FED_BYTES = 20;
    private static final int KEY_BYTES = 32;
    private static final int LOW_31_BITS = 0x7fffffff;

    private final byte[] tape = new byte[TAPE_BYTES];
    private int tapeLength = 0;
    private final int[] nextKey = new int[KEY_BYTES / 4];
    private final Path path = new Path(tape);
    private final Path otherPath = new Path(tape);
    private final Drive drive = new Drive();
    private final Volume volume = new Volume(drive);
    private final Files files = new Files(volume);

    public LyingDisk() {
    }

    public int feed(int a, int b, int c, int d, int e) throws IllegalStateException {
        if (tapeLength > TAPE_BYTES - FED_BYTES) {
            throw new IllegalStateException("the tape has no room");
        }
        addToTape(a);
        addToTape(b);
        addToTape(c);
        addToTape(d);
        addToTape(e);
        return tapeLength;
    }

    public int end(int n) throws IllegalArgumentException {
        require(n >= 0 && n <= tapeLength);
        tapeLength = n;
        return n;
    }

    public void key() throws IllegalArgumentException {
        require(tapeLength == KEY_BYTES);
        for (int i = 0; i < KEY_BYTES; i++) {
            putByte(nextKey, i, tape[i]);
        }
        tapeLength = 0;
    }

    public int format(int n) throws IllegalArgumentException {
        require(n >= LEAST_BLOCKS && n <= MOST_BLOCKS && n % 8 == 0);
        try {
            volume.begin(n, nextKey);
            files.makeTop();
            volume.commit();
        } catch (UnsupportedOperationException stop) {
            return volume.stopped();
        }
        volume.forget();
        return drive.accesses;
    }

    public int mount(int c) throws IllegalArgumentException {
        require(c >= 2 && c <= Cache.MOST);
        volume.forget();
        if (drive.blockCount == 0) {
            return NOT_MOUNTED;
        }
        if (volume.sealed) {
            return TAMPERED;
        }
        try {
            return volume.open(c);
        } catch (UnsupportedOperationException stop) {
            return volume.stopped();
        }
    }

    public void off() {
        volume.forget();
    }

    public int make(int sort) throws IllegalArgumentException {
        require(sort == FILE || sort == DIRECTORY);
        int due = takePath(tapeLength);
        if (due < 0) {
            return due;
        }
        try {
            return files.makeAt(path, sort);
        } catch (UnsupportedOperationException stop) {
            return volume.stopped();
        }
    }

    public int remove() {
        int due = takePath(tapeLength);
        if (due < 0) {
            return due;
        }
        try {
            return files.removeAt(path);
        } catch (UnsupportedOperationException stop) {
            return volume.stopped();
        }
    }

    public int move(int n) throws IllegalArgumentException {
        require(n >= 0 && n <= tapeLength);
        int length = tapeLength;
        int due = takePath(n);
        if (due < 0) {
            return due;
        }
        if (!otherPath.split(n, length)) {
            return NO_PATH;
        }
        try {
            return files.moveTo(path, otherPath);
        } catch (UnsupportedOperationException stop) {
            return volume.stopped();
        }
    }

    public int write(int n, int at) throws IllegalArgumentException {
        require(n >= 0 && n <= tapeLength && at >= 0);
        int length = tapeLength;
        int due = takePath(n);
        if (due < 0) {
            return due;
        }
        try {
            return files.writeAt(path, n, length, at);
        } catch (UnsupportedOperationException stop) {
            return volume.stopped();
        }
    }

    public int size(int n) throws IllegalArgumentException {
        require(n >= 0);
        int due = takePath(tapeLength);
        if (due < 0) {
            return due;
        }
        try {
            return files.resize(path, n);
        } catch (UnsupportedOperationException stop) {
            return volume.stopped();
        }
    }

    public int read(int at, int n) throws IllegalArgumentException {
        require(n >= 0 && n <= MOST_READ && at >= 0);
        int due = takePath(tapeLength);
        if (due < 0) {
            return due;
        }
        try {
            return files.readAt(path, at, n);
        } catch (UnsupportedOperationException stop) {
            return volume.stopped();
        }
    }

    public int list() {
        int due = takePath(tapeLength);
        if (due < 0) {
            return due;
        }
        try {
            return files.listAt(path);
        } catch (UnsupportedOperationException stop) {
            return volume.stopped();
        }
    }

    public int told(int what) throws IllegalArgumentException {
        require(what >= 0 && what <= 3);
        int due = takePath(tapeLength);
        if (due < 0) {
            return due;
        }
        try {
            return files.tellOf(path, what);
        } catch (UnsupportedOperationException stop) {
            return volume.stopped();
        }
    }

    public int sync() {
        int due = volume.readiness();
        if (due < 0) {
            return due;
        }
        try {
            return volume.commit();
        } catch (UnsupportedOperationException stop) {
            return volume.stopped();
        }
    }

    public int result(int i) throws IndexOutOfBoundsException {
        if (i < 0 || i >= files.resultLength) {
            throw new IndexOutOfBoundsException("no such byte of the result");
        }
        return files.resultBytes[i] & 255;
    }

    public int disk(int block, int at) throws NoSuchElementException, IndexOutOfBoundsException {
        requireBlock(block);
        requireIndex(at, BLOCK_BYTES);
        return byteAt(drive.blocks[block], at);
    }

    public int flip(int block, int at, int with, int when)
            throws NoSuchElementException, IndexOutOfBoundsException, IllegalArgumentException,
            IllegalStateException {
        requireBlock(block);
        requireIndex(at, BLOCK_BYTES);
        require(when >= 0);
        if (drive.flips == Drive.MOST_FLIPS) {
            throw new IllegalStateException("no more flips can be planned");
        }
        if (when > 0) {
            return drive.planFlip(block, at, with, when);
        }
        drive.alter(block, at, with);
        return byteAt(drive.blocks[block], at);
    }

    public void copy(int block, int from) throws NoSuchElementException {
        requireBlock(block);
        requireBlock(from);
        System.arraycopy(drive.blocks[from], 0, drive.blocks[block], 0, BLOCK_WORDS);
    }

    public void image(boolean back) throws IllegalStateException {
        if (drive.blockCount == 0 || (back && drive.keptCount == 0)) {
            throw new IllegalStateException("there is nothing to keep or to put back");
        }
        if (back) {
            drive.putBack();
        } else {
            drive.keepAside();
        }
    }

    public void power(int k) throws IllegalArgumentException {
        require(k >= 0);
        drive.powerIn = k;
    }

    public int count(int what) {
        switch (what) {
            case 0:
                return tapeLength;
            case 1:
                return drive.blockCount;
            case 2:
                return drive.accesses;
            case 3:
                return volume.mounted ? 1 : 0;
            case 4:
                return volume.sealed ? 1 : 0;
            case 9:
                return volume.register[0];
            case 10:
                return drive.flips;
            case 11:
                return files.resultLength;
            default:
                return what >= 5 && what <= 8 ? volume.tally(what) : -1;
        }
    }

    public int register(int i) throws IndexOutOfBoundsException, IllegalStateException {
        requireIndex(i, 4 * DIGEST_WORDS);
        if (drive.blockCount == 0) {
            throw new IllegalStateException("there is no disk");
        }
        return byteAt(volume.register, 4 + i);
    }

    private static void require(boolean fits) {
        if (!fits) {
            throw new IllegalArgumentException("an argument is out of its range");
        }
    }

    private static void requireIndex(int i, int length) {
        if (i < 0 || i >= length) {
            throw new IndexOutOfBoundsException("no such byte");
        }
    }

    private void requireBlock(int block) {
        if (!drive.has(block)) {
            throw new NoSuchElementException("no such block");
        }
    }

    private void addToTape(int word) {
        for (int shift = 24; shift >= 0; shift -= 8) {
            tape[tapeLength] = (byte) (word >>> shift);
            tapeLength++;
        }
    }

    /**
     * Takes the TAPE, whose first n bytes are a PATH: 0, or the answer that is due already. The
     * bytes themselves stay where they are until something is fed again.
     */
    private int takePath(int n) {
        tapeLength = 0;
        int due = volume.readiness();
        if (due < 0) {
            return due;
        }
        return path.split(0, n) ? 0 : NO_PATH;
    }

    private static int byteAt(int[] row, int i) {
        return row[i >> 2] >>> (24 - 8 * (i & 3)) & 255;
    }

    private static void putByte(int[] row, int i, int value) {
        int shift = 24 - 8 * (i & 3);
        row[i >> 2] = row[i >> 2] & ~(255 << shift) | (value & 255) << shift;
    }

    /** How many blocks a size needs. */
    private static int blocksOf(int size) {
        return (size + BLOCK_BYTES - 1) / BLOCK_BYTES;
    }

    /** The least height with which a TREE has all blocks of a size. */
    private static int leastHeight(int size) {
        int height = 0;
        for (int blocks = 1; blocks < blocksOf(size); blocks *= TREES_IN_NODE) {
            height++;
        }
        return height;
    }

    private static void makeNone(int[] row, int at) {
        Arrays.fill(row, at, at + POINTER_WORDS, 0);
        row[at] = NONE;
    }

    private static boolean isNone(int[] row, int at) {
        int digest = 0;
        for (int i = 1; i < POINTER_WORDS; i++) {
            digest |= row[at + i];
        }
        return row[at] == NONE && digest == 0;
    }

    /** A PATH: where its NAMES lie among the TAPE's bytes. */
    private static final class Path {
        static final int MOST_NAMES = 16;
        static final int MOST_NAME_BYTES = 29;
        static final int NAME_IN_ENTRY = 3;
        static final int SLASH = 47;

        private final byte[] bytes;
        private final int[] starts = new int[MOST_NAMES];
        private final int[] lengths = new int[MOST_NAMES];
        int names = 0;

        Path(byte[] tapeBytes) {
            bytes = tapeBytes;
        }

        boolean split(int from, int to) {
            names = 0;
            if (from == to) {
                return true;
            }
            int start = from;
            for (int i = from; i < to; i++) {
                if (bytes[i] == 0) {
                    return false;
                }
                if (bytes[i] == SLASH) {
                    if (!addName(start, i)) {
                        return false;
                    }
                    start = i + 1;
                }
            }
            return addName(start, to);
        }

        private boolean addName(int start, int stop) {
            if (names == MOST_NAMES || start == stop || stop - start > MOST_NAME_BYTES) {
                return false;
            }
            starts[names] = start;
            lengths[names] = stop - start;
            names++;
            return true;
        }

        /** Whether the ENTRY at that word of the row bears the NAME. */
        boolean isBorne(int name, int[] row, int at) {
            if ((row[at] >>> 8 & 255) != lengths[name]) {
                return false;
            }
            for (int i = 0; i < lengths[name]; i++) {
                if (byteAt(row, 4 * at + NAME_IN_ENTRY + i) != (bytes[starts[name] + i] & 255)) {
                    return false;
                }
            }
            return true;
        }

        /** Puts an ENTRY with the last NAME at that word of the row. */
        void putEntry(int number, int[] row, int at) {
            if (names == 0) {
                return;
            }
            int start = starts[names - 1];
            int length = lengths[names - 1];
            Arrays.fill(row, at, at + ENTRY_WORDS, 0);
            row[at] = number << 16 | length << 8;
            for (int i = 0; i < length; i++) {
                putByte(row, 4 * at + NAME_IN_ENTRY + i, bytes[start + i]);
            }
        }
    }

    /** The DISK, and what is planned for the ACCESSES to it. */
    private static final class Drive {
        static final int MOST_FLIPS = 64;

        final int[][] blocks = new int[MOST_BLOCKS][BLOCK_WORDS];
        int blockCount = 0;
        private final int[][] kept = new int[MOST_BLOCKS][BLOCK_WORDS];
        int keptCount = 0;
        int accesses = 0;
        int powerIn = 0;
        int flips = 0;
        private final int[] flipBlock = new int[MOST_FLIPS];
        private final int[] flipAt = new int[MOST_FLIPS];
        private final int[] flipWith = new int[MOST_FLIPS];
        private final int[] flipIn = new int[MOST_FLIPS];

        void renew(int newCount) {
            blockCount = newCount;
            accesses = 0;
            powerIn = 0;
            flips = 0;
            for (int i = 0; i < newCount; i++) {
                Arrays.fill(blocks[i], 0);
            }
        }

        boolean has(int block) {
            return block >= 0 && block < blockCount;
        }

        void alter(int block, int at, int with) {
            blocks[block][at >> 2] ^= (with & 255) << 24 - 8 * (at & 3);
        }

        int planFlip(int block, int at, int with, int when) {
            flipBlock[flips] = block;
            flipAt[flips] = at;
            flipWith[flips] = with;
            flipIn[flips] = when;
            flips++;
            return flips;
        }

        void keepAside() {
            keptCount = blockCount;
            for (int i = 0; i < blockCount; i++) {
                System.arraycopy(blocks[i], 0, kept[i], 0, BLOCK_WORDS);
            }
        }

        void putBack() {
            for (int i = 0; i < Math.min(blockCount, keptCount); i++) {
                System.arraycopy(kept[i], 0, blocks[i], 0, BLOCK_WORDS);
            }
        }

        /** Comes before every ACCESS: flips that are due, then POWER; what that stops is not counted. */
        void access() {
            int left = 0;
            for (int i = 0; i < flips; i++) {
                if (flipIn[i] == 1) {
                    alter(flipBlock[i], flipAt[i], flipWith[i]);
                } else {
                    flipBlock[left] = flipBlock[i];
                    flipAt[left] = flipAt[i];
                    flipWith[left] = flipWith[i];
                    flipIn[left] = flipIn[i] - 1;
                    left++;
                }
            }
            flips = left;
            if (powerIn > 0) {
                powerIn--;
                if (powerIn == 0) {
                    throw new UnsupportedOperationException("power failed");
                }
            }
            accesses++;
        }
    }

    /** SHA-256 of one block. */
    private static final class Sha {
        private static final int[] START = {
            0x6a09e667, 0xbb67ae85, 0x3c6ef372, 0xa54ff53a,
            0x510e527f, 0x9b05688c, 0x1f83d9ab, 0x5be0cd19,
        };
        private static final int[] ROUNDS = {
            0x428a2f98, 0x71374491, 0xb5c0fbcf, 0xe9b5dba5, 0x3956c25b, 0x59f111f1, 0x923f82a4, 0xab1c5ed5,
            0xd807aa98, 0x12835b01, 0x243185be, 0x550c7dc3, 0x72be5d74, 0x80deb1fe, 0x9bdc06a7, 0xc19bf174,
            0xe49b69c1, 0xefbe4786, 0x0fc19dc6, 0x240ca1cc, 0x2de92c6f, 0x4a7484aa, 0x5cb0a9dc, 0x76f988da,
            0x983e5152, 0xa831c66d, 0xb00327c8, 0xbf597fc7, 0xc6e00bf3, 0xd5a79147, 0x06ca6351, 0x14292967,
            0x27b70a85, 0x2e1b2138, 0x4d2c6dfc, 0x53380d13, 0x650a7354, 0x766a0abb, 0x81c2c92e, 0x92722c85,
            0xa2bfe8a1, 0xa81a664b, 0xc24b8b70, 0xc76c51a3, 0xd192e819, 0xd6990624, 0xf40e3585, 0x106aa070,
            0x19a4c116, 0x1e376c08, 0x2748774c, 0x34b0bcb5, 0x391c0cb3, 0x4ed8aa4a, 0x5b9cca4f, 0x682e6ff3,
            0x748f82ee, 0x78a5636f, 0x84c87814, 0x8cc70208, 0x90befffa, 0xa4506ceb, 0xbef9a3f7, 0xc67178f2,
        };
        private static final int CHUNK_WORDS = 16;

        private final int[] state = new int[DIGEST_WORDS];
        private final int[] schedule = new int[64];
        private final int[] padding = new int[CHUNK_WORDS];

        Sha() {
            padding[0] = 0x80000000;
            padding[CHUNK_WORDS - 1] = 8 * BLOCK_BYTES;
        }

        void digest(int[] row) {
            System.arraycopy(START, 0, state, 0, DIGEST_WORDS);
            for (int at = 0; at < BLOCK_WORDS; at += CHUNK_WORDS) {
                compress(row, at);
            }
            compress(padding, 0);
        }

        boolean isAt(int[] row, int at) {
            for (int i = 0; i < DIGEST_WORDS; i++) {
                if (row[at + i] != state[i]) {
                    return false;
                }
            }
            return true;
        }

        void putAt(int[] row, int at) {
            System.arraycopy(state, 0, row, at, DIGEST_WORDS);
        }

        private void compress(int[] row, int at) {
            int[] w = schedule;
            System.arraycopy(row, at, w, 0, CHUNK_WORDS);
            for (int t = CHUNK_WORDS; t < 64; t++) {
                int x = w[t - 15];
                int y = w[t - 2];
                int s0 = (x >>> 7 | x << 25) ^ (x >>> 18 | x << 14) ^ x >>> 3;
                int s1 = (y >>> 17 | y << 15) ^ (y >>> 19 | y << 13) ^ y >>> 10;
                w[t] = w[t - 16] + s0 + w[t - 7] + s1;
            }
            int a = state[0];
            int b = state[1];
            int c = state[2];
            int d = state[3];
            int e = state[4];
            int f = state[5];
            int g = state[6];
            int h = state[7];
            for (int t = 0; t < 64; t++) {
                int s1 = (e >>> 6 | e << 26) ^ (e >>> 11 | e << 21) ^ (e >>> 25 | e << 7);
                int t1 = h + s1 + (e & f ^ ~e & g) + ROUNDS[t] + w[t];
                int s0 = (a >>> 2 | a << 30) ^ (a >>> 13 | a << 19) ^ (a >>> 22 | a << 10);
                int t2 = s0 + (a & b ^ a & c ^ b & c);
                h = g;
                g = f;
                f = e;
                e = d + t1;
                d = c;
                c = b;
                b = a;
                a = t1 + t2;
            }
            state[0] += a;
            state[1] += b;
            state[2] += c;
            state[3] += d;
            state[4] += e;
            state[5] += f;
            state[6] += g;
            state[7] += h;
        }
    }

    /** AES-128 in XTS mode over one block. */
    private static final class Cipher {
        private static final int KEY_WORDS = 4;
        private static final int SCHEDULE_WORDS = 44;
        private static final int UNIT_WORDS = 4;

        private final int[] box = new int[256];
        private final int[] inverseBox = new int[256];
        /** Box and column mixing in one step, a table for each byte of a column behind another. */
        private final int[] mix = new int[1024];
        private final int[] inverseMix = new int[1024];
        private final int[] dataKeys = new int[SCHEDULE_WORDS];
        private final int[] inverseKeys = new int[SCHEDULE_WORDS];
        private final int[] tweakKeys = new int[SCHEDULE_WORDS];
        private final int[] tweaks = new int[BLOCK_WORDS];
        private final int[] now = new int[UNIT_WORDS];
        private final int[] next = new int[UNIT_WORDS];

        Cipher() {
            fillBoxes();
            for (int x = 0; x < 256; x++) {
                int s = box[x];
                int column = times(s, 2) << 24 | s << 16 | s << 8 | times(s, 3);
                putTurned(mix, x, column);
                int v = inverseBox[x];
                column = times(v, 14) << 24 | times(v, 9) << 16 | times(v, 13) << 8 | times(v, 11);
                putTurned(inverseMix, x, column);
            }
        }

        /** The box by its definition: p runs through all numbers but 0, q is what p has as inverse. */
        private void fillBoxes() {
            int p = 1;
            int q = 1;
            for (int i = 0; i < 255; i++) {
                p = times(p, 3);
                q = times(q, 0xf6);
                int twice = q << 8 | q;
                putInBoxes(p, (twice ^ twice >>> 7 ^ twice >>> 6 ^ twice >>> 5 ^ twice >>> 4) & 255 ^ 0x63);
            }
            putInBoxes(0, 0x63);
        }

        private void putInBoxes(int x, int s) {
            box[x] = s;
            inverseBox[s] = x;
        }

        private static void putTurned(int[] table, int x, int column) {
            for (int i = 0; i < 4; i++) {
                table[256 * i + x] = i == 0 ? column : column >>> 8 * i | column << 32 - 8 * i;
            }
        }

        /** The product in AES's field of 256 numbers. */
        private static int times(int x, int y) {
            int product = 0;
            int power = x;
            for (int bit = 1; bit < 256; bit <<= 1) {
                if ((y & bit) != 0) {
                    product ^= power;
                }
                power = power << 1 ^ ((power & 128) != 0 ? 0x11b : 0);
            }
            return product;
        }

        void setKey(int[] key) {
            expand(key, 0, dataKeys);
            expand(key, KEY_WORDS, tweakKeys);
            for (int i = 0; i < SCHEDULE_WORDS; i++) {
                int word = dataKeys[SCHEDULE_WORDS - UNIT_WORDS - (i & ~3) + (i & 3)];
                boolean outer = i < UNIT_WORDS || i >= SCHEDULE_WORDS - UNIT_WORDS;
                inverseKeys[i] = outer ? word : unmixed(word);
            }
        }

        private void expand(int[] key, int at, int[] keys) {
            System.arraycopy(key, at, keys, 0, KEY_WORDS);
            int constant = 1;
            for (int i = KEY_WORDS; i < SCHEDULE_WORDS; i++) {
                int word = keys[i - 1];
                if (i % KEY_WORDS == 0) {
                    word = boxed(word << 8 | word >>> 24) ^ constant << 24;
                    constant = times(constant, 2);
                }
                keys[i] = keys[i - KEY_WORDS] ^ word;
            }
        }

        private int boxed(int word) {
            return box[word >>> 24] << 24 | box[word >>> 16 & 255] << 16
                | box[word >>> 8 & 255] << 8 | box[word & 255];
        }

        /** The mixing of columns undone; the table wants the box done first. */
        private int unmixed(int word) {
            int b = boxed(word);
            return inverseMix[b >>> 24] ^ inverseMix[256 + (b >>> 16 & 255)]
                ^ inverseMix[512 + (b >>> 8 & 255)] ^ inverseMix[768 + (b & 255)];
        }

        /** Enciphers, or deciphers, the block of that number from one row to another. */
        void apply(boolean encipher, int[] from, int[] to, int number) {
            Arrays.fill(tweaks, 0, UNIT_WORDS, 0);
            tweaks[0] = number << 24 | (number & 0xff00) << 8 | number >>> 8 & 0xff00 | number >>> 24;
            turn(true, tweaks, 0, tweakKeys);
            spreadTweaks();
            for (int i = 0; i < BLOCK_WORDS; i++) {
                to[i] = from[i] ^ tweaks[i];
            }
            for (int at = 0; at < BLOCK_WORDS; at += UNIT_WORDS) {
                turn(encipher, to, at, encipher ? dataKeys : inverseKeys);
            }
            for (int i = 0; i < BLOCK_WORDS; i++) {
                to[i] ^= tweaks[i];
            }
        }

        /**
         * Each unit's tweak is twice the one before. Its lowest byte comes first, so a bit that
         * leaves a byte goes to the byte at its right, and one that leaves the last byte comes
         * back as 0x87 in the first.
         */
        private void spreadTweaks() {
            for (int i = UNIT_WORDS; i < BLOCK_WORDS; i++) {
                int word = tweaks[i - UNIT_WORDS];
                int twice = (word & 0x7f7f7f7f) << 1 | word >>> 15 & 0x00010101;
                if (i % UNIT_WORDS != 0) {
                    tweaks[i] = twice | tweaks[i - UNIT_WORDS - 1] << 17 & 0x01000000;
                } else {
                    tweaks[i] = twice ^ ((tweaks[i - 1] & 128) != 0 ? 0x87000000 : 0);
                }
            }
        }

        /** AES over the unit at that word, in place; backwards the rows of bytes shift the other way. */
        private void turn(boolean forwards, int[] words, int at, int[] keys) {
            int[] table = forwards ? mix : inverseMix;
            int[] last = forwards ? box : inverseBox;
            int step = forwards ? 1 : 3;
            for (int i = 0; i < UNIT_WORDS; i++) {
                now[i] = words[at + i] ^ keys[i];
            }
            for (int k = UNIT_WORDS; k < SCHEDULE_WORDS - UNIT_WORDS; k += UNIT_WORDS) {
                for (int i = 0; i < UNIT_WORDS; i++) {
                    next[i] = keys[k + i] ^ table[now[i] >>> 24]
                        ^ table[256 + (now[i + step & 3] >>> 16 & 255)]
                        ^ table[512 + (now[i + 2 * step & 3] >>> 8 & 255)]
                        ^ table[768 + (now[i + 3 * step & 3] & 255)];
                }
                System.arraycopy(next, 0, now, 0, UNIT_WORDS);
            }
            for (int i = 0; i < UNIT_WORDS; i++) {
                int word = last[now[i] >>> 24] << 24 | last[now[i + step & 3] >>> 16 & 255] << 16
                    | last[now[i + 2 * step & 3] >>> 8 & 255] << 8 | last[now[i + 3 * step & 3] & 255];
                words[at + i] = word ^ keys[SCHEDULE_WORDS - UNIT_WORDS + i];
            }
        }
    }

    /** The CACHE: the blocks read last, deciphered. */
    private static final class Cache {
        static final int MOST = 64;

        private final int[][] rows = new int[MOST][BLOCK_WORDS];
        private final int[] numbers = new int[MOST];
        private final int[] lastUses = new int[MOST];
        private int capacity = 0;
        private int clock = 0;
        int held = 0;

        void empty(int newCapacity) {
            capacity = newCapacity;
            held = 0;
            clock = 0;
        }

        /** The block's row, now the one used last, or null. */
        int[] find(int number) {
            int slot = slotOf(number);
            if (slot < 0) {
                return null;
            }
            clock++;
            lastUses[slot] = clock;
            return rows[slot];
        }

        /** A row for a block that the CACHE has not, now the one used last. */
        int[] admit(int number) {
            int slot = held < capacity ? held : oldestSlot();
            if (held < capacity) {
                held++;
            }
            clock++;
            numbers[slot] = number;
            lastUses[slot] = clock;
            return rows[slot];
        }

        void discard(int number) {
            int slot = slotOf(number);
            if (slot < 0) {
                return;
            }
            held--;
            int[] row = rows[slot];
            rows[slot] = rows[held];
            rows[held] = row;
            numbers[slot] = numbers[held];
            lastUses[slot] = lastUses[held];
        }

        private int slotOf(int number) {
            for (int slot = 0; slot < held; slot++) {
                if (numbers[slot] == number) {
                    return slot;
                }
            }
            return -1;
        }

        private int oldestSlot() {
            int oldest = 0;
            for (int slot = 1; slot < held; slot++) {
                if (lastUses[slot] < lastUses[oldest]) {
                    oldest = slot;
                }
            }
            return oldest;
        }
    }

    /** The WORKING and the COMMITTED MAP, as ROOT has them: 32 blocks a word, from its highest bit on. */
    private static final class Maps {
        static final int PLACE_IN_ROOT = 16;
        static final int WORDS = MOST_BLOCKS / 32;
        /** Shifted by a block's number it is the block's bit: only the number's low five bits count. */
        static final int FIRST_BIT = 0x80000000;

        private final int[] working = new int[WORDS];
        private final int[] committed = new int[WORDS];
        private int blockCount = 0;

        void empty(int newCount) {
            blockCount = newCount;
            Arrays.fill(working, 0);
            Arrays.fill(committed, 0);
        }

        void load(int[] root, int newCount) {
            blockCount = newCount;
            for (int i = 0; i < WORDS; i++) {
                working[i] = root[PLACE_IN_ROOT + i] & bitsOfBlocks(i);
            }
            commitWorking();
        }

        /** The bits of a MAP's word that are blocks of the DISK: what lies behind them is no part of the MAP. */
        private int bitsOfBlocks(int word) {
            int bits = Math.min(32, blockCount - 32 * word);
            return bits > 0 ? -1 << 32 - bits : 0;
        }

        void putInto(int[] root) {
            System.arraycopy(working, 0, root, PLACE_IN_ROOT, WORDS);
        }

        void commitWorking() {
            System.arraycopy(working, 0, committed, 0, WORDS);
        }

        int freeBlocks() {
            int used = 0;
            for (int i = 0; i < WORDS; i++) {
                used += Integer.bitCount(working[i] | committed[i]);
            }
            return blockCount - used;
        }

        int freshBlocks() {
            int fresh = 0;
            for (int i = 0; i < WORDS; i++) {
                fresh += Integer.bitCount(working[i] & ~committed[i]);
            }
            return fresh;
        }

        /** The least number that neither MAP has as used, used from now on, or NONE. */
        int useLeast() {
            for (int number = 0; number < blockCount; number++) {
                int used = working[number >> 5] | committed[number >> 5];
                if ((used & FIRST_BIT >>> number) == 0) {
                    working[number >> 5] |= FIRST_BIT >>> number;
                    return number;
                }
            }
            return NONE;
        }

        void release(int number) {
            if (number >= 0 && number < blockCount) {
                working[number >> 5] &= ~(FIRST_BIT >>> number);
            }
        }

        boolean isCommitted(int number) {
            return number >= 0 && number < blockCount
                && (committed[number >> 5] & FIRST_BIT >>> number) != 0;
        }

        /** What is used now and was not at the last COMMIT was taken since then. */
        boolean isFresh(int number) {
            return number >= 0 && number < blockCount
                && (working[number >> 5] & ~committed[number >> 5] & FIRST_BIT >>> number) != 0;
        }
    }

    /** The machine: the REGISTER, what is MOUNTED, and the blocks that POINTERS name. */
    private static final class Volume {
        static final int TABLE_IN_ROOT = 2;

        private final Drive drive;
        private final Cipher cipher = new Cipher();
        private final Sha sha = new Sha();
        private final Cache cache = new Cache();
        private final Maps maps = new Maps();
        /** The REGISTER has what a POINTER to ROOT has; COUNT is in the ROOT that it vouches for. */
        final int[] register = new int[POINTER_WORDS];
        boolean sealed = false;
        boolean mounted = false;
        final int[] table = new int[POINTER_WORDS];
        private long commits = 0;
        private int root = NONE;
        private final int[] rootRow = new int[BLOCK_WORDS];
        /** The bytes of FRESH blocks. */
        private final int[][] memory = new int[MOST_BLOCKS][BLOCK_WORDS];

        Volume(Drive itsDrive) {
            drive = itsDrive;
            register[0] = NONE;
        }

        /** 0, or the answer of a call that needs what is MOUNTED. */
        int readiness() {
            if (sealed) {
                return TAMPERED;
            }
            return mounted ? 0 : NOT_MOUNTED;
        }

        /** The answer of a call that TAMPERED or POWER ended. */
        int stopped() {
            forget();
            return sealed ? TAMPERED : POWER_FAILED;
        }

        void forget() {
            mounted = false;
        }

        void tampered() {
            sealed = true;
            throw new UnsupportedOperationException("tampered");
        }

        int tally(int what) {
            if (!mounted) {
                return 0;
            }
            switch (what) {
                case 5:
                    return maps.freeBlocks();
                case 6:
                    return maps.freshBlocks();
                case 7:
                    return cache.held;
                default:
                    return lowCommits();
            }
        }

        int freeBlocks() {
            return maps.freeBlocks();
        }

        private int lowCommits() {
            return (int) commits & LOW_31_BITS;
        }

        /** A new DISK, with nothing on it yet. */
        void begin(int size, int[] key) {
            forget();
            drive.renew(size);
            cipher.setKey(key);
            maps.empty(size);
            makeNone(table, 0);
            makeNone(register, 0);
            root = NONE;
            commits = 0;
            sealed = false;
        }

        int open(int capacity) {
            if (!drive.has(register[0])) {
                tampered();
            }
            drive.access();
            int[] raw = drive.blocks[register[0]];
            sha.digest(raw);
            if (!sha.isAt(register, 1)) {
                tampered();
            }
            root = register[0];
            cipher.apply(false, raw, rootRow, root);
            commits = (long) rootRow[0] << 32 | rootRow[1] & 0xffffffffL;
            System.arraycopy(rootRow, TABLE_IN_ROOT, table, 0, POINTER_WORDS);
            maps.load(rootRow, drive.blockCount);
            cache.empty(capacity);
            if (!maps.isCommitted(table[0])) {
                tampered();
            }
            mounted = true;
            return lowCommits();
        }

        /** The block that the POINTER at that word of the row names; it is not NONE. */
        int[] fetch(int[] row, int at, int kind) {
            int number = row[at];
            if (maps.isFresh(number)) {
                return memory[number];
            }
            int[] block = cache.find(number);
            if (block == null) {
                if (!drive.has(number)) {
                    tampered();
                }
                drive.access();
                int[] raw = drive.blocks[number];
                sha.digest(raw);
                if (!sha.isAt(row, at + 1)) {
                    tampered();
                }
                block = cache.admit(number);
                cipher.apply(false, raw, block, number);
            }
            inspect(block, kind);
            return block;
        }

        /**
         * All POINTERS in a block that is not FRESH must name COMMITTED blocks. So a number alone
         * tells NONE wherever a POINTER is followed.
         */
        private void inspect(int[] block, int kind) {
            if (kind == DATA) {
                return;
            }
            boolean isNode = kind == NODE;
            int step = isNode ? POINTER_WORDS : INODE_WORDS;
            int trees = isNode ? TREES_IN_NODE : INODES_IN_BLOCK;
            for (int i = 0; i < trees; i++) {
                int tree = isNode ? i * step : i * step + TREE_IN_INODE;
                boolean counts = isNode || block[i * step] >>> 24 != 0;
                if (counts && !isNone(block, tree) && !maps.isCommitted(block[tree])) {
                    tampered();
                }
            }
        }

        /** The block that a POINTER in memory names, FRESH from now on. */
        int[] change(int[] row, int at, int kind) {
            int number = row[at];
            if (maps.isFresh(number)) {
                return memory[number];
            }
            int[] old = number == NONE ? null : fetch(row, at, kind);
            int taken = take();
            int[] block = memory[taken];
            if (old != null) {
                System.arraycopy(old, 0, block, 0, BLOCK_WORDS);
            } else if (kind == NODE) {
                makeEmptyNode(block);
            } else {
                Arrays.fill(block, 0);
            }
            maps.release(number);
            name(row, at, taken);
            return block;
        }

        /** A block is TAKEN for a NODE whose first TREE is the one at that word, whose place it takes. */
        void raise(int[] row, int at) {
            int taken = take();
            int[] node = memory[taken];
            makeEmptyNode(node);
            System.arraycopy(row, at, node, 0, POINTER_WORDS);
            name(row, at, taken);
        }

        private static void makeEmptyNode(int[] block) {
            for (int i = 0; i < TREES_IN_NODE; i++) {
                makeNone(block, i * POINTER_WORDS);
            }
            block[BLOCK_WORDS - 1] = 0;
        }

        private static void name(int[] row, int at, int number) {
            Arrays.fill(row, at, at + POINTER_WORDS, 0);
            row[at] = number;
        }

        private int take() {
            int number = maps.useLeast();
            if (number == NONE) {
                // FULL is answered long before, so only on a DISK that lies no block is left.
                tampered();
            }
            cache.discard(number);
            return number;
        }

        void release(int number) {
            maps.release(number);
        }

        int commit() {
            if (maps.freshBlocks() > 0) {
                for (int i = 0; i < INODES_IN_TABLE / INODES_IN_BLOCK; i++) {
                    writeFilesOf(i);
                }
                writeTree(table, 0, TABLE_HEIGHT);
                writeRoot();
            }
            return lowCommits();
        }

        /** A file whose TREE is FRESH has its INODE in a FRESH block, so nothing is read here. */
        private void writeFilesOf(int tableBlock) {
            int[] block = freshBlock(table, 0);
            block = freshBlock(block, tableBlock / TREES_IN_NODE * POINTER_WORDS);
            block = freshBlock(block, tableBlock % TREES_IN_NODE * POINTER_WORDS);
            for (int at = 0; block != null && at < BLOCK_WORDS; at += INODE_WORDS) {
                if (block[at] >>> 24 != 0) {
                    writeTree(block, at + TREE_IN_INODE, block[at] >>> 16 & 255);
                }
            }
        }

        private int[] freshBlock(int[] row, int at) {
            return row != null && maps.isFresh(row[at]) ? memory[row[at]] : null;
        }

        /** Writes what is FRESH of a TREE; below a block that is not, nothing is. */
        private void writeTree(int[] row, int at, int height) {
            int[] block = freshBlock(row, at);
            if (block == null) {
                return;
            }
            for (int i = 0; height > 0 && i < TREES_IN_NODE; i++) {
                writeTree(block, i * POINTER_WORDS, height - 1);
            }
            store(row[at]);
            sha.putAt(row, at + 1);
        }

        /** Writes a FRESH block; its DIGEST is the last one made then. */
        private void store(int number) {
            drive.access();
            int[] raw = drive.blocks[number];
            cipher.apply(true, memory[number], raw, number);
            sha.digest(raw);
        }

        private void writeRoot() {
            int taken = take();
            maps.release(root);
            root = taken;
            commits++;
            int[] row = memory[taken];
            Arrays.fill(row, 0);
            row[0] = (int) (commits >>> 32);
            row[1] = (int) commits;
            System.arraycopy(table, 0, row, TABLE_IN_ROOT, POINTER_WORDS);
            maps.putInto(row);
            store(taken);
            drive.access();
            register[0] = taken;
            sha.putAt(register, 1);
            maps.commitWorking();
        }
    }

    /** An INODE: words of a row, be it a copy or the TABLE's block in memory. */
    private static final class Inode {
        static final int HEIGHT_BITS = 255 << 16;

        int[] row = new int[INODE_WORDS];
        int at = 0;

        int sort() {
            return row[at] >>> 24;
        }

        int height() {
            return (row[at] & HEIGHT_BITS) >> 16;
        }

        int bytes() {
            return row[at + 1];
        }

        int entries() {
            return bytes() / ENTRY_BYTES;
        }

        int tree() {
            return at + TREE_IN_INODE;
        }

        /** The two bytes behind the height may be no zeros on a DISK that lies: they stay. */
        void setBytes(int bytes) {
            row[at] = row[at] & ~HEIGHT_BITS | leastHeight(bytes) << 16;
            row[at + 1] = bytes;
        }

        void clear() {
            Arrays.fill(row, at, at + INODE_WORDS, 0);
        }

        void copyFrom(int[] from, int word) {
            System.arraycopy(from, word, row, at, INODE_WORDS);
        }

        boolean isAs(Inode other) {
            for (int i = 0; i < INODE_WORDS; i++) {
                if (row[at + i] != other.row[other.at + i]) {
                    return false;
                }
            }
            return true;
        }

        void becomeEmpty(int sort) {
            clear();
            row[at] = sort << 24;
            makeNone(row, tree());
        }

        /** Whether it may be what an ENTRY names, or the top. */
        boolean isSound() {
            int bytes = bytes();
            if (bytes < 0 || bytes > MOST_SIZE || height() != leastHeight(bytes)) {
                return false;
            }
            boolean wholeEntries = bytes % ENTRY_BYTES == 0 && entries() <= MOST_ENTRIES;
            return sort() == FILE || sort() == DIRECTORY && wholeEntries;
        }
    }

    /** TREES: their DATA blocks, and how they grow and shrink. */
    private static final class Trees {
        private final Volume volume;

        Trees(Volume itsVolume) {
            volume = itsVolume;
        }

        /** Where the NODE at that level has the POINTER on the way to DATA block i. */
        private static int wordOnWay(int i, int level) {
            int digits = i;
            for (int below = 1; below < level; below++) {
                digits /= TREES_IN_NODE;
            }
            return digits % TREES_IN_NODE * POINTER_WORDS;
        }

        /**
         * DATA block i of the TREE at that word of the row, null where it is NONE. If it is to be
         * UNREAD, the block that has the POINTER to it stands for it.
         */
        int[] data(int[] row, int at, int height, int i, int kind) {
            int[] block = row;
            int word = at;
            for (int level = height; level > 0; level--) {
                if (block[word] == NONE) {
                    return null;
                }
                block = volume.fetch(block, word, NODE);
                word = wordOnWay(i, level);
            }
            if (block[word] == NONE) {
                return null;
            }
            return kind == UNREAD ? block : volume.fetch(block, word, kind);
        }

        /** DATA block i, changed with all NODES on the way. */
        int[] change(int[] row, int at, int height, int i, int kind) {
            int[] block = row;
            int word = at;
            for (int level = height; level > 0; level--) {
                block = volume.change(block, word, NODE);
                word = wordOnWay(i, level);
            }
            return volume.change(block, word, kind);
        }

        void grow(Inode inode, int bytes) {
            for (int height = inode.height(); height < leastHeight(bytes); height++) {
                if (inode.row[inode.tree()] != NONE) {
                    volume.raise(inode.row, inode.tree());
                }
            }
            inode.setBytes(bytes);
        }

        void shrink(Inode inode, int bytes) {
            int[] row = inode.row;
            int tree = inode.tree();
            int height = inode.height();
            int inLast = bytes % BLOCK_BYTES;
            if (inLast != 0 && data(row, tree, height, bytes / BLOCK_BYTES, UNREAD) != null) {
                int[] block = change(row, tree, height, bytes / BLOCK_BYTES, DATA);
                for (int i = inLast; i < BLOCK_BYTES; i++) {
                    putByte(block, i, 0);
                }
            }
            for (int i = blocksOf(inode.bytes()) - 1; i >= blocksOf(bytes); i--) {
                if (data(row, tree, height, i, UNREAD) != null) {
                    cut(row, tree, height, i);
                }
            }
            for (int level = height; level > leastHeight(bytes); level--) {
                lower(row, tree);
            }
            inode.setBytes(bytes);
        }

        /** DATA block i becomes NONE, and so does each NODE that has nothing else. */
        private void cut(int[] row, int at, int height, int i) {
            if (height > 0) {
                int[] node = volume.change(row, at, NODE);
                cut(node, wordOnWay(i, height), height - 1, i);
                if (!isEmptyNode(node)) {
                    return;
                }
            }
            volume.release(row[at]);
            makeNone(row, at);
        }

        private static boolean isEmptyNode(int[] node) {
            for (int i = 0; i < TREES_IN_NODE; i++) {
                if (node[i * POINTER_WORDS] != NONE) {
                    return false;
                }
            }
            return true;
        }

        /** The first TREE of the top NODE takes that NODE's place. */
        private void lower(int[] row, int at) {
            int number = row[at];
            if (number != NONE) {
                int[] node = volume.fetch(row, at, NODE);
                System.arraycopy(node, 0, row, at, POINTER_WORDS);
                volume.release(number);
            }
        }
    }

    /** Where following a PATH has come to. */
    private static final class Place {
        int number = 0;
        final Inode inode = new Inode();
        /** The DIRECTORY in which the last NAME was looked for, as it was read, and its ENTRY's index there. */
        int parent = 0;
        final Inode parentInode = new Inode();
        int entry = 0;
        private final int[] passed = new int[Path.MOST_NAMES];
        private int steps = 0;

        void start() {
            steps = 0;
        }

        void enter() {
            parent = number;
            parentInode.copyFrom(inode.row, inode.at);
            if (steps < Path.MOST_NAMES) {
                passed[steps] = number;
                steps++;
            }
        }

        boolean hasPassed(int directory) {
            for (int i = 0; i < steps; i++) {
                if (passed[i] == directory) {
                    return true;
                }
            }
            return false;
        }
    }

    /** FILES and DIRECTORIES: what the calls with a PATH do once all is MOUNTED. */
    private static final class Files {
        private static final int SPARE_BLOCKS = 24;

        private final Volume volume;
        private final Trees trees;
        private final Place place = new Place();
        private final Place target = new Place();
        /** The INODE that is being changed, in the TABLE's FRESH block. */
        private final Inode held = new Inode();
        /** The free INODE that was found, as it was read. */
        private final Inode free = new Inode();
        private final int[] entryWords = new int[ENTRY_WORDS];
        byte[] resultBytes = new byte[MOST_READ];
        int resultLength = 0;
        /** A RESULT comes to be here, so that a call that is stopped leaves the last one alone. */
        private byte[] nextBytes = new byte[MOST_READ];

        Files(Volume itsVolume) {
            volume = itsVolume;
            trees = new Trees(itsVolume);
        }

        void makeTop() {
            free.clear();
            hold(0, free);
            held.becomeEmpty(DIRECTORY);
        }

        int makeAt(Path path, int sort) {
            int there = follow(path, place);
            if (there != LAST_MISSING) {
                return there == FOUND ? PRESENT : ABSENT;
            }
            int number = place.inode.entries() < MOST_ENTRIES ? freeInode() : NONE;
            if (number == NONE) {
                return TOO_MUCH;
            }
            if (isFull(0)) {
                return FULL;
            }
            hold(number, free);
            held.becomeEmpty(sort);
            hold(place.parent, place.parentInode);
            putEntry(path, number);
            return number;
        }

        int removeAt(Path path) {
            if (follow(path, place) != FOUND) {
                return ABSENT;
            }
            boolean hasEntries = place.inode.sort() == DIRECTORY && place.inode.entries() > 0;
            if (place.number == 0 || hasEntries) {
                return IN_USE;
            }
            if (isFull(0)) {
                return FULL;
            }
            hold(place.number, place.inode);
            trees.shrink(held, 0);
            held.clear();
            hold(place.parent, place.parentInode);
            fillGap(place.entry);
            trees.shrink(held, held.bytes() - ENTRY_BYTES);
            return place.number;
        }

        int moveTo(Path path, Path newPath) {
            if (follow(path, place) != FOUND) {
                return ABSENT;
            }
            int there = follow(newPath, target);
            if (there == ABSENT) {
                return ABSENT;
            }
            if (place.number == 0 || target.hasPassed(place.number)) {
                return UNFIT;
            }
            if (there == FOUND) {
                return PRESENT;
            }
            if (target.parent != place.parent && target.inode.entries() == MOST_ENTRIES) {
                return TOO_MUCH;
            }
            if (isFull(0)) {
                return FULL;
            }
            hold(place.parent, place.parentInode);
            fillGap(place.entry);
            trees.shrink(held, held.bytes() - ENTRY_BYTES);
            // In one DIRECTORY its INODE is in hand, and by now not as it was read.
            if (target.parent != place.parent) {
                hold(target.parent, target.parentInode);
            }
            putEntry(newPath, place.number);
            return place.number;
        }

        /** The bytes from .. to - 1 of the TAPE are written. */
        int writeAt(Path path, int from, int to, int at) {
            int due = dueForFile(follow(path, place));
            if (due < 0) {
                return due;
            }
            int length = to - from;
            if (length == 0) {
                return place.inode.bytes();
            }
            if (length > MOST_SIZE - at) {
                return TOO_MUCH;
            }
            int stop = at + length;
            if (isFull(blocksOf(stop) - at / BLOCK_BYTES)) {
                return FULL;
            }
            hold(place.number, place.inode);
            if (stop > held.bytes()) {
                trees.grow(held, stop);
            }
            for (int i = at / BLOCK_BYTES; i < blocksOf(stop); i++) {
                int[] block = trees.change(held.row, held.tree(), held.height(), i, DATA);
                int last = Math.min(stop, (i + 1) * BLOCK_BYTES);
                for (int b = Math.max(at, i * BLOCK_BYTES); b < last; b++) {
                    putByte(block, b % BLOCK_BYTES, path.bytes[from + b - at]);
                }
            }
            return held.bytes();
        }

        int resize(Path path, int bytes) {
            int due = dueForFile(follow(path, place));
            if (due < 0) {
                return due;
            }
            int old = place.inode.bytes();
            if (bytes == old) {
                return bytes;
            }
            if (bytes > MOST_SIZE) {
                return TOO_MUCH;
            }
            if (isFull(blocksOf(Math.max(old, bytes)) - Math.min(old, bytes) / BLOCK_BYTES)) {
                return FULL;
            }
            hold(place.number, place.inode);
            if (bytes > old) {
                trees.grow(held, bytes);
            } else {
                trees.shrink(held, bytes);
            }
            return bytes;
        }

        int readAt(Path path, int at, int n) {
            int due = dueForFile(follow(path, place));
            if (due < 0) {
                return due;
            }
            int length = Math.min(n, Math.max(0, place.inode.bytes() - at));
            gather(at, length);
            return length;
        }

        int listAt(Path path) {
            if (follow(path, place) != FOUND) {
                return ABSENT;
            }
            if (place.inode.sort() != DIRECTORY) {
                return UNFIT;
            }
            gather(0, place.inode.bytes());
            return place.inode.entries();
        }

        int tellOf(Path path, int what) {
            if (follow(path, place) != FOUND) {
                return ABSENT;
            }
            switch (what) {
                case 0:
                    return place.inode.sort();
                case 1:
                    return place.inode.bytes();
                case 2:
                    return place.number;
                default:
                    return place.inode.height();
            }
        }

        private boolean isFull(int dataBlocks) {
            return volume.freeBlocks() < 2 * dataBlocks + SPARE_BLOCKS;
        }

        /** What a call that is for a FILE alone answers by now; FOUND: it can go on. */
        private int dueForFile(int there) {
            if (there != FOUND) {
                return ABSENT;
            }
            return place.inode.sort() == FILE ? FOUND : UNFIT;
        }

        /** FOUND; LAST_MISSING, if all is there but the last NAME; else ABSENT. */
        private int follow(Path path, Place at) {
            at.start();
            readInode(0, at);
            for (int name = 0; name < path.names; name++) {
                if (at.inode.sort() != DIRECTORY) {
                    return ABSENT;
                }
                at.enter();
                int number = findEntry(at, path, name);
                if (number == NONE) {
                    return name == path.names - 1 ? LAST_MISSING : ABSENT;
                }
                readInode(number, at);
            }
            return FOUND;
        }

        /** The number of the INODE that the ENTRY with the NAME has, or NONE. */
        private int findEntry(Place at, Path path, int name) {
            int[] block = null;
            for (int entry = 0; entry < at.inode.entries(); entry++) {
                int word = entry % ENTRIES_IN_BLOCK * ENTRY_WORDS;
                if (word == 0) {
                    block = trees.data(at.inode.row, at.inode.tree(), at.inode.height(),
                        entry / ENTRIES_IN_BLOCK, DATA);
                }
                if (block != null && path.isBorne(name, block, word)) {
                    at.entry = entry;
                    return block[word] >>> 16;
                }
            }
            return NONE;
        }

        private void readInode(int number, Place at) {
            int i = number / INODES_IN_BLOCK;
            int[] block = number < INODES_IN_TABLE ? trees.data(volume.table, 0, TABLE_HEIGHT, i, INODES) : null;
            if (block != null) {
                at.inode.copyFrom(block, number % INODES_IN_BLOCK * INODE_WORDS);
            }
            if (block == null || !at.inode.isSound()) {
                volume.tampered();
            }
            at.number = number;
        }

        private int freeInode() {
            for (int i = 0; i < INODES_IN_TABLE / INODES_IN_BLOCK; i++) {
                int[] block = trees.data(volume.table, 0, TABLE_HEIGHT, i, INODES);
                if (block == null) {
                    free.clear();
                    return i * INODES_IN_BLOCK;
                }
                for (int k = 0; k < INODES_IN_BLOCK; k++) {
                    free.copyFrom(block, k * INODE_WORDS);
                    if (free.sort() == 0) {
                        return i * INODES_IN_BLOCK + k;
                    }
                }
            }
            return NONE;
        }

        /**
         * Changes the INODE's block, so that the INODE can be changed in it. That may read the block a
         * second time, and two different blocks may have one DIGEST: what the call looked at holds for
         * the INODE in hand only if it still is as it was read.
         */
        private void hold(int number, Inode asRead) {
            held.row = trees.change(volume.table, 0, TABLE_HEIGHT, number / INODES_IN_BLOCK, INODES);
            held.at = number % INODES_IN_BLOCK * INODE_WORDS;
            if (!held.isAs(asRead)) {
                volume.tampered();
            }
        }

        private void putEntry(Path path, int number) {
            int entry = held.entries();
            trees.grow(held, held.bytes() + ENTRY_BYTES);
            int i = entry / ENTRIES_IN_BLOCK;
            int[] block = trees.change(held.row, held.tree(), held.height(), i, DATA);
            path.putEntry(number, block, entry % ENTRIES_IN_BLOCK * ENTRY_WORDS);
        }

        /** The last ENTRY of the DIRECTORY in hand takes the place of the one that goes. */
        private void fillGap(int entry) {
            int last = held.entries() - 1;
            if (entry >= last) {
                return;
            }
            int height = held.height();
            int[] block = trees.data(held.row, held.tree(), height, last / ENTRIES_IN_BLOCK, DATA);
            Arrays.fill(entryWords, 0);
            if (block != null) {
                System.arraycopy(block, last % ENTRIES_IN_BLOCK * ENTRY_WORDS, entryWords, 0, ENTRY_WORDS);
            }
            block = trees.change(held.row, held.tree(), height, entry / ENTRIES_IN_BLOCK, DATA);
            System.arraycopy(entryWords, 0, block, entry % ENTRIES_IN_BLOCK * ENTRY_WORDS, ENTRY_WORDS);
        }

        /** Bytes of what was found become the RESULT. */
        private void gather(int at, int length) {
            int[] block = null;
            for (int b = at; b < at + length; b++) {
                if (b == at || b % BLOCK_BYTES == 0) {
                    block = trees.data(place.inode.row, place.inode.tree(), place.inode.height(),
                        b / BLOCK_BYTES, DATA);
                }
                nextBytes[b - at] = (byte) (block == null ? 0 : byteAt(block, b % BLOCK_BYTES));
            }
            byte[] old = resultBytes;
            resultBytes = nextBytes;
            nextBytes = old;
            resultLength = length;
        }
    }
}
