import java.util.Arrays;
import java.util.TreeSet;
import java.util.function.Consumer;

/**
 * What lies on the DISK, read from the REGISTER down with the library's AES and SHA-256. No object is
 * used for more than 512 calls: the same run is played again on new objects, as often as needed.
 */
public final class LayoutTest {
    private static final String KEY = "the key of the data: the tweak's";
    private static final int BLOCKS = 200;

    private final byte[][] disk = new byte[BLOCKS][256];
    private final TreeSet<Integer> used = new TreeSet<>();
    private byte[] registerDigest = new byte[32];
    private int rootBlock;

    public static void main(String[] args) {
        new LayoutTest().check();
        xtsVectors();
        Bench.finish("LayoutTest");
    }

    private static Bench played() {
        Bench bench = new Bench();
        bench.tape(KEY);
        bench.disk.key();
        bench.disk.format(BLOCKS);
        bench.disk.mount(3);
        bench.make("top", 2);
        for (int i = 1; i <= 9; i++) {
            bench.make("top/f" + i, 1);
        }
        bench.write("top/f1", "one", 0);
        bench.write("top/f9", Bench.pattern(300), 1700);
        bench.remove("top/f2");
        bench.disk.sync();
        bench.write("top/f1", "ONE", 3);
        bench.make("z", 2);
        bench.disk.sync();
        return bench;
    }

    private static void eachTime(int from, int to, Consumer<Bench> call, int calls) {
        for (int i = from; i < to; i += calls) {
            call.accept(played());
        }
    }

    private void load() {
        int[] next = {0};
        eachTime(0, BLOCKS * 256, bench -> {
            for (int i = 0; i < 400 && next[0] < BLOCKS * 256; i++) {
                disk[next[0] / 256][next[0] % 256] = (byte) bench.disk.disk(next[0] / 256, next[0] % 256);
                next[0]++;
            }
        }, 400);
        Bench bench = played();
        rootBlock = bench.disk.count(9);
        for (int i = 0; i < 32; i++) {
            registerDigest[i] = (byte) bench.disk.register(i);
        }
    }

    private byte[] block(int number, byte[] digest) {
        Bench.holds("block " + number + " is named once", used.add(number));
        Bench.holds("the digest of block " + number, Arrays.equals(Model.Crypto.sha(disk[number]), digest));
        return Model.Crypto.xts(false, Bench.bytes(KEY), number, disk[number]);
    }

    private byte[] blockAt(byte[] bytes, int at) {
        return block(Model.number4(bytes, at), Arrays.copyOfRange(bytes, at + 4, at + 36));
    }

    private static boolean isNone(byte[] bytes, int at) {
        return Model.number4(bytes, at) == -1;
    }

    private static void checkZeros(String what, byte[] bytes, int from, int to) {
        for (int i = from; i < to; i++) {
            Bench.same(what + ": byte " + i, bytes[i], 0);
        }
    }

    /** The bytes of a TREE. */
    private byte[] tree(byte[] bytes, int at, int height) {
        int length = 256 * (int) Math.round(Math.pow(7, height));
        byte[] all = new byte[length];
        if (isNone(bytes, at)) {
            checkZeros("the digest of NONE", bytes, at + 4, at + 36);
            return all;
        }
        byte[] block = blockAt(bytes, at);
        if (height == 0) {
            return block;
        }
        checkZeros("a node's end", block, 252, 256);
        boolean empty = true;
        for (int k = 0; k < 7; k++) {
            empty &= isNone(block, 36 * k);
            System.arraycopy(tree(block, 36 * k, height - 1), 0, all, length / 7 * k, length / 7);
        }
        Bench.holds("a node has something", !empty);
        return all;
    }

    private void check() {
        load();
        byte[] root = block(rootBlock, registerDigest);
        Bench.same("COUNT", Model.number4(root, 0), 0);
        Bench.same("COUNT", Model.number4(root, 4), 3);
        checkZeros("ROOT", root, 44, 64);
        byte[] table = tree(root, 8, 2);
        checkInode(table, 0, 2, 64, "top=1 z=3");
        checkInode(table, 1, 2, 256, "f1=2 f9=10 f3=4 f4=5 f5=6 f6=7 f7=8 f8=9");
        checkInode(table, 3, 2, 0, "");
        Bench.same("f1", new String(checkInode(table, 2, 1, 6, null), 0, 6), "oneONE");
        byte[] f9 = checkInode(table, 10, 1, 2000, null);
        byte[] due = Arrays.copyOf(Bench.joined(new byte[1700], Bench.pattern(300)), f9.length);
        Bench.holds("f9 and the zeros behind it", Arrays.equals(f9, due));
        for (int number = 4; number < 10; number++) {
            checkInode(table, number, 1, 0, null);
        }
        checkZeros("free inodes", table, 64 * 11, table.length);
        for (int i = 0; i < BLOCKS; i++) {
            Bench.same("the map's bit " + i, root[64 + i / 8] >> 7 - i % 8 & 1, used.contains(i) ? 1 : 0);
        }
        checkZeros("behind the map", root, 64 + BLOCKS / 8, 256);
    }

    private byte[] checkInode(byte[] table, int number, int sort, int size, String entries) {
        int at = 64 * number;
        int height = size <= 256 ? 0 : size <= 1792 ? 1 : 2;
        Bench.same("sort of " + number, table[at], sort);
        Bench.same("height of " + number, table[at + 1], height);
        Bench.same("zeros of " + number, table[at + 2] | table[at + 3], 0);
        Bench.same("size of " + number, Model.number4(table, at + 4), size);
        checkZeros("inode " + number, table, at + 44, at + 64);
        byte[] bytes = tree(table, at + 8, height);
        if (entries != null) {
            Bench.same("entries of " + number, entriesIn(bytes, size), entries);
        }
        checkZeros("behind the size of " + number, bytes, size, bytes.length);
        return bytes;
    }

    private static String entriesIn(byte[] bytes, int size) {
        StringBuilder text = new StringBuilder();
        for (int at = 0; at < size; at += 32) {
            int length = bytes[at + 2];
            text.append(at == 0 ? "" : " ").append(new String(bytes, at + 3, length)).append('=');
            text.append((bytes[at] & 255) << 8 | bytes[at + 1] & 255);
            checkZeros("behind a name", bytes, at + 3 + length, at + 32);
        }
        return text.toString();
    }

    /** The Model's XTS itself, by the first vectors of IEEE 1619. */
    private static void xtsVectors() {
        byte[] zeros = Model.Crypto.xts(true, new byte[32], 0, new byte[256]);
        Bench.same("vector 1", hex(zeros), "917cf69ebd68b2ec9b9fe9a3eadda692cd43d2f59598ed858c02c2652fbf922e");
        byte[] key = new byte[32];
        Arrays.fill(key, 0, 16, (byte) 0x11);
        Arrays.fill(key, 16, 32, (byte) 0x22);
        byte[] plain = new byte[256];
        Arrays.fill(plain, (byte) 0x44);
        byte[] enciphered = Model.Crypto.xts(true, key, 0x33333333, plain);
        Bench.holds("deciphered again", Arrays.equals(Model.Crypto.xts(false, key, 0x33333333, enciphered), plain));
    }

    private static String hex(byte[] bytes) {
        StringBuilder text = new StringBuilder();
        for (int i = 0; i < 32; i++) {
            text.append(Character.forDigit(bytes[i] >> 4 & 15, 16)).append(Character.forDigit(bytes[i] & 15, 16));
        }
        return text.toString();
    }
}
