import java.util.Arrays;
import java.util.function.Consumer;

/**
 * Bytes that the layout has as zeros and that are none, behind right DIGESTS (two different blocks may have
 * one): what counts for nothing, what stays, what becomes zero, and what is TAMPERED. They are laid on by
 * Forge, which knows how LyingDisk holds its state.
 */
public final class ForgedBytesEdgesTest {
    private static final int TABLE = 8;
    private static final int MAP = 64;
    private static final int INODE_0 = 0;
    private static final int INODE_1 = 64;
    private static final int INODE_2 = 128;
    private static final int INODE_3 = 192;
    private static final int[] INODES = {TABLE, 0, 0};
    private static final int[] NODE_OF_F = {TABLE, 0, 0, INODE_1 + 8};
    private static final int[] ENTRIES = {TABLE, 0, 0, INODE_0 + 8};

    private ForgedBytesEdgesTest() {
    }

    public static void main(String[] args) {
        if (Forge.of(new LyingDisk()) == null) {
            System.out.println("ForgedBytesEdgesTest: LyingDisk holds its state in another way; nothing was forged");
            return;
        }
        oneBitBehindTheMap();
        allBitsBehindTheMap();
        fullWithBitsBehindTheMap();
        rootIsWrittenAnew();
        rootsOwnBit();
        bytesOfAnInodeStay();
        bytesOfADirectorysInodeStay();
        newInodesAndThoseThatGo();
        bytesOfANodeStay();
        noneHasZeros();
        noneHasZerosInAllWords();
        noneOfAFreeInode();
        topThatIsNoDirectory();
        bytesBehindANameCountForNothing();
        bytesBehindANameStay();
        insideOfItself();
        Bench.finish("ForgedBytesEdgesTest");
    }

    /** The TABLE 4 5 6, the ENTRIES 7; a FILE f, INODE 1, a NODE 8 and DATA blocks 9 10; d, INODE 2; ROOT 11. */
    private static Bench withBoth(int blocks) {
        Bench bench = Bench.mounted(blocks, 8);
        bench.make("f", 1);
        bench.make("d", 2);
        bench.write("f", Bench.pattern(300), 0);
        bench.disk.sync();
        return bench;
    }

    private static Bench altered(int blocks, Consumer<byte[]> change, int... way) {
        Bench bench = withBoth(blocks);
        Forge.of(bench.disk).alter(change, way);
        Bench.same("mount", bench.disk.mount(8), 2);
        return bench;
    }

    private static String register(Bench bench) {
        StringBuilder text = new StringBuilder();
        for (int i = 0; i < 32; i++) {
            text.append(bench.disk.register(i)).append(' ');
        }
        return text.toString();
    }

    private static byte[] blockAt(Bench bench, int... way) {
        Forge forge = Forge.of(bench.disk);
        byte[] block = forge.root();
        for (int at : way) {
            block = forge.named(block, at);
        }
        return block;
    }

    private static void setBit(byte[] root, int bit) {
        root[MAP + bit / 8] |= (byte) (128 >> bit % 8);
    }

    private static void oneBitBehindTheMap() {
        for (int blocks : new int[] {64, 72, 88, 96, 120, 128, 512, 1016}) {
            for (int bit : new int[] {blocks, blocks + 1, blocks + 7, 1023, 1024, 1535}) {
                Bench.says("Terms", "FREE: how many blocks neither MAP has as used");
                Bench bench = altered(blocks, root -> setBit(root, bit));
                String what = blocks + " blocks, bit " + bit;
                Bench.same(what + ": FREE", bench.disk.count(5), blocks - 8);
                Bench.same(what + ": FRESH", bench.disk.count(6), 0);
                bench.make("x", 1);
                Bench.same(what + ": FREE, 4 being taken", bench.disk.count(5), blocks - 12);
                bench.disk.sync();
                Bench.says("Terms", "MAP: N bits from the highest of each byte on, 1: the block is used (ROOT's, too), zeros");
                byte[] root = blockAt(bench);
                Bench.same(what + ": zeros", root[MAP + bit / 8], 0);
            }
            Bench last = altered(blocks, root -> setBit(root, blocks - 1));
            Bench.same("the last block of " + blocks, last.disk.count(5), blocks - 9);
        }
        Bench most = altered(1024, root -> setBit(root, 1023));
        Bench.same("the last bit that there can be", most.disk.count(5), 1024 - 9);
    }

    private static void fillBehindTheMap(byte[] root, int blocks) {
        Arrays.fill(root, MAP + blocks / 8, 256, (byte) 255);
    }

    private static void allBitsBehindTheMap() {
        for (int blocks : new int[] {64, 72, 88, 96, 1016, 1024}) {
            Bench due = altered(blocks, root -> { });
            Bench bench = altered(blocks, root -> fillBehindTheMap(root, blocks));
            for (Bench each : new Bench[] {due, bench}) {
                Bench.says("Terms", "FREE: how many blocks neither MAP has as used");
                Bench.same("FREE of " + blocks, each.disk.count(5), blocks - 8);
                Bench.same("make", each.make("x", 1), 3);
                Bench.same("write", each.write("x", Bench.pattern(400), 7), 407);
                Bench.same("size", each.size("f", 1000), 1000);
                Bench.same("move", each.move("x", "d/x"), 3);
                Bench.same("remove", each.remove("f"), 1);
                Bench.same("sync", each.disk.sync(), 3);
            }
            Bench.says("Terms", "1: the block is used (ROOT's, too), zeros");
            byte[] root = blockAt(bench);
            for (int i = MAP + blocks / 8; i < 256; i++) {
                Bench.same("byte " + i + " of ROOT", root[i], 0);
            }
            Bench.same("the register", register(bench), register(due));
            Bench.same("mount", bench.disk.mount(8), 3);
            Bench.same("FREE", bench.disk.count(5), due.disk.count(5));
        }
    }

    /** So many blocks are FREE; all bits behind the MAP are 1. */
    private static Bench withFree(int free) {
        Bench bench = altered(64, root -> {
            fillBehindTheMap(root, 64);
            for (int number = 12 + free; number < 64; number++) {
                setBit(root, number);
            }
            for (int number = 0; number < 4; number++) {
                setBit(root, number);
            }
        });
        Bench.same("FREE", bench.disk.count(5), free);
        return bench;
    }

    private static void fullWithBitsBehindTheMap() {
        Bench.says("Terms", "FULL, -9: FREE is below 2 * L + 24");
        Bench.same("make", withFree(24).make("x", 1), 3);
        Bench.same("make", withFree(23).make("x", 1), -9);
        Bench.same("remove", withFree(24).remove("f"), 1);
        Bench.same("remove", withFree(23).remove("f"), -9);
        Bench.same("move", withFree(24).move("f", "d/f"), 1);
        Bench.same("move", withFree(23).move("f", "d/f"), -9);
        Bench.same("write", withFree(26).write("f", "x", 0), 300);
        Bench.same("write", withFree(25).write("f", "x", 0), -9);
        Bench.same("size", withFree(26).size("f", 301), 301);
        Bench.same("size", withFree(25).size("f", 301), -9);
    }

    private static void rootIsWrittenAnew() {
        Bench.says("Terms", "ROOT: COUNT (8), the TABLE (36), 20 zeros");
        Bench due = altered(64, root -> { });
        Bench bench = altered(64, root -> Arrays.fill(root, 44, 64, (byte) 7));
        for (Bench each : new Bench[] {due, bench}) {
            each.make("x", 1);
            each.disk.sync();
        }
        byte[] root = blockAt(bench);
        for (int i = 44; i < 64; i++) {
            Bench.same("byte " + i + " of ROOT", root[i], 0);
        }
        Bench.same("the register", register(bench), register(due));
    }

    private static void rootsOwnBit() {
        Bench.says("Terms", "FREE: how many blocks neither MAP has as used");
        Bench bench = altered(64, root -> root[MAP + 1] &= ~(128 >> 3));
        Bench.same("ROOT's own block counts", bench.disk.count(5), 57);
        Bench.says("Terms", "then a block is TAKEN for ROOT, the old ROOT's is no more used");
        bench.make("x", 1);
        bench.disk.sync();
        Bench.same("ROOT, behind 0 .. 3", bench.disk.count(9), 11);
        Bench.same("FREE", bench.disk.count(5), 57);
    }

    /** Two INODES with other bytes where the layout has zeros. */
    private static void spoil(byte[] inodes, int... which) {
        for (int inode : which) {
            inodes[inode + 2] = 0x12;
            inodes[inode + 3] = (byte) 0xfe;
            for (int i = 44; i < 64; i++) {
                inodes[inode + i] = (byte) (i + inode);
            }
        }
    }

    /**
     * A call and sync, with INODES that were spoilt and with sound ones: what those hold then, with the same
     * bytes in the INODES that stay, is due.
     */
    private static void checkInodes(String what, Consumer<Bench> call, int... staying) {
        Bench sound = altered(64, inodes -> { });
        Bench bench = altered(64, inodes -> spoil(inodes, INODE_0, INODE_1, INODE_2, INODE_3), INODES);
        for (Bench each : new Bench[] {sound, bench}) {
            call.accept(each);
            Bench.same(what + ": sync", each.disk.sync(), 3);
        }
        byte[] due = blockAt(sound, INODES);
        spoil(due, staying);
        byte[] got = blockAt(bench, INODES);
        for (int i = 0; i < 256; i++) {
            Bench.same(what + ": byte " + i + " of the inodes", got[i], due[i]);
        }
        bench.disk.mount(8);
        sound.disk.mount(8);
        Bench.same(what + ": what is there", bench.names(""), sound.names(""));
    }

    private static void bytesOfAnInodeStay() {
        Bench.says("Terms", "it is used then, FRESH, with the old one's bytes");
        int[] all = {INODE_0, INODE_1, INODE_2, INODE_3};
        for (int size : new int[] {0, 1, 255, 256, 257, 299, 301, 512, 1792, 1793, 3000}) {
            checkInodes("size " + size, bench -> Bench.same("size", bench.size("f", size), size), all);
        }
        for (int at : new int[] {0, 297, 298, 300, 509, 512, 1789, 1790, 1792, 12542, 12544, 65533}) {
            int size = Math.max(300, at + 3);
            checkInodes("write at " + at, bench -> Bench.same("write", bench.write("f", "abc", at), size), all);
        }
        checkInodes("up and down", bench -> {
            bench.size("f", 2000);
            bench.write("f", "x", 1999);
            bench.size("f", 300);
        }, all);
    }

    private static void bytesOfADirectorysInodeStay() {
        Bench.says("Terms", "An ENTRY is put: the DIRECTORY's INODE is changed, its size grows");
        checkInodes("make", bench -> Bench.same("make", bench.make("x", 1), 3), INODE_0, INODE_1, INODE_2);
        checkInodes("make in d", bench -> Bench.same("make", bench.make("d/x", 2), 3), INODE_0, INODE_1, INODE_2);
        int[] all = {INODE_0, INODE_1, INODE_2, INODE_3};
        checkInodes("move to d", bench -> Bench.same("move", bench.move("f", "d/f"), 1), all);
        checkInodes("move in the top", bench -> Bench.same("move", bench.move("f", "g"), 1), all);
        checkInodes("from 8 entries to 9 and back", bench -> {
            for (int i = 3; i <= 9; i++) {
                Bench.same("make", bench.make("x" + i, 1), i);
            }
            Bench.same("height", bench.told("", 3), 1);
            Bench.same("remove", bench.remove("x9"), 9);
            Bench.same("remove", bench.remove("x3"), 3);
            Bench.same("height", bench.told("", 3), 0);
        }, INODE_0, INODE_1, INODE_2);
        Bench.says("Terms", "One that goes is replaced by the last one, and the size becomes 32 less");
        checkInodes("remove the last", bench -> Bench.same("remove", bench.remove("d"), 2), INODE_0, INODE_1, INODE_3);
        checkInodes("remove the first", bench -> Bench.same("remove", bench.remove("f"), 1), INODE_0, INODE_2, INODE_3);
    }

    private static void newInodesAndThoseThatGo() {
        Bench.says("Promise 8", "a new, empty one there of sort 1 or 2: first its INODE");
        Bench made = altered(64, inodes -> Arrays.fill(inodes, INODE_3 + 1, 256, (byte) 0x55), INODES);
        Bench.same("make", made.make("x", 2), 3);
        made.disk.sync();
        byte[] inodes = blockAt(made, INODES);
        byte[] due = new byte[64];
        due[0] = 2;
        Forge.put4(due, 8, -1);
        Bench.same("nothing of the old bytes", Arrays.toString(Arrays.copyOfRange(inodes, INODE_3, 256)), Arrays.toString(due));
        Bench.says("Promise 9", "then its INODE becomes all zeros");
        Bench gone = altered(64, block -> spoil(block, INODE_1), INODES);
        Bench.same("remove", gone.remove("f"), 1);
        gone.disk.sync();
        inodes = blockAt(gone, INODES);
        Bench.same("all zeros", Arrays.toString(Arrays.copyOfRange(inodes, INODE_1, INODE_2)), Arrays.toString(new byte[64]));
    }

    private static void bytesOfANodeStay() {
        Bench.says("Terms", "it is used then, FRESH, with the old one's bytes");
        Bench bench = altered(64, node -> Forge.put4(node, 252, 0x01020304), NODE_OF_F);
        Bench.same("write", bench.write("f", "x", 600), 601);
        bench.disk.sync();
        Bench.same("the 4 bytes of the node", Model.number4(blockAt(bench, NODE_OF_F), 252), 0x01020304);
        Bench.same("size", bench.size("f", 2000), 2000);
        bench.disk.sync();
        Bench.says("Terms", "7 TREES of height h - 1, 4 zeros");
        Bench.same("those of a new one above it", Model.number4(blockAt(bench, NODE_OF_F), 252), 0);
        Bench.same("its own", Model.number4(blockAt(bench, TABLE, 0, 0, INODE_1 + 8, 0), 252), 0x01020304);
        Bench.says("Terms", "a NODE, all of whose TREES are NONE, likewise, at once");
        Bench.same("size", bench.size("f", 0), 0);
        bench.disk.sync();
        Bench.same("it goes, whatever they are", Model.number4(blockAt(bench, INODES), INODE_1 + 8), -1);
        Bench.same("FREE", bench.disk.count(5), 64 - 5);
    }

    private static void noneHasZeros() {
        Bench.says("Terms", "NONE: number 2^32 - 1, 32 zeros");
        for (int i = 0; i < 32; i++) {
            int at = i;
            for (int tree = 36 + 4; tree < 252; tree += 36 * 5) {
                int digest = tree;
                Bench top = altered(64, node -> node[digest + at] = 1, TABLE);
                Bench.same("the table's node, byte " + i, top.told("", 0), -1);
                Bench.same("SEALED", top.disk.count(4), 1);
                Bench low = altered(64, node -> node[digest + at] = (byte) 128, TABLE, 0);
                Bench.same("the node below, byte " + i, low.told("", 0), -1);
            }
            Bench file = altered(64, node -> node[36 * 6 + 4 + at] = 1, NODE_OF_F);
            Bench.same("not read yet", file.told("f", 1), 300);
            Bench.same("the file's node, byte " + i, file.read("f", 0, 1), -1);
            Bench changed = altered(64, node -> node[36 * 2 + 4 + at] = 1, NODE_OF_F);
            Bench.same("the file's node, changed, byte " + i, changed.write("f", "x", 0), -1);
            Bench inode = altered(64, inodes -> inodes[INODE_2 + 12 + at] = 1, INODES);
            Bench.same("an inode's tree, byte " + i, inode.told("", 0), -1);
        }
    }

    private static void noneHasZerosInAllWords() {
        Bench.says("Terms", "NONE: number 2^32 - 1, 32 zeros");
        int[][] pairs = {{1, 1}, {1, -1}, {-1, -1}, {0x80000000, 0x80000000}};
        for (int[] pair : pairs) {
            Bench bench = altered(64, node -> {
                Forge.put4(node, 36 + 4, pair[0]);
                Forge.put4(node, 36 + 32, pair[1]);
            }, TABLE);
            Bench.same("words " + pair[0] + " and " + pair[1], bench.told("", 0), -1);
        }
    }

    private static void noneOfAFreeInode() {
        Bench.says("Terms", "of INODES: of those whose sort is not 0");
        Bench bench = altered(64, inodes -> {
            Forge.put4(inodes, INODE_3 + 8, -1);
            inodes[INODE_3 + 12] = 1;
        }, INODES);
        Bench.same("a free one's does not count", bench.told("", 0), 2);
        Bench.same("make", bench.make("x", 1), 3);
        Bench.same("write", bench.write("x", "x", 0), 1);
        Bench.same("sync", bench.disk.sync(), 3);
        Bench.same("read", bench.read("x", 0, 1), 1);
    }

    private static void topThatIsNoDirectory() {
        Bench.says("Terms", "and the INODE not free: else TAMPERED");
        Bench.same("the top is free", altered(64, inodes -> inodes[INODE_0] = 0, INODES).told("", 0), -1);
        Bench.same("the top is free", altered(64, inodes -> inodes[INODE_0] = 0, INODES).make("x", 1), -1);
        Bench none = altered(64, node -> {
            Arrays.fill(node, 0, 36, (byte) 0);
            Forge.put4(node, 0, -1);
        }, TABLE, 0);
        Bench.same("its block is NONE", none.told("", 0), -1);
        Bench.says("Terms", "for each NAME that INODE must be a DIRECTORY's");
        Bench file = altered(64, inodes -> inodes[INODE_0] = 1, INODES);
        Bench.same("a file", file.told("", 0), 1);
        Bench.same("nothing is in it", file.told("f", 0), -5);
        Bench.same("nor can be", file.make("x", 1), -5);
        Bench.same("its bytes", file.read("", 0, 64), 64);
        Bench.same("no list", file.list(""), -7);
        Bench.same("it is there", file.make("", 1), -6);
        Bench.same("it is the top", file.remove(""), -8);
    }

    private static void bytesBehindANameCountForNothing() {
        Bench.says("Terms", "up to the one with the NAME");
        Bench bench = altered(64, entries -> Arrays.fill(entries, 4, 32, (byte) 'x'), ENTRIES);
        Bench.same("its length tells the name", bench.told("f", 2), 1);
        Bench.same("what lies behind is none of it", bench.told("fx", 2), -5);
        for (int length : new int[] {0, 30, 31, 255}) {
            Bench odd = altered(64, entries -> entries[2] = (byte) length, ENTRIES);
            Bench.same("a name of " + length, odd.told("f", 2), -5);
            Bench.same("the next one", odd.told("d", 2), 2);
        }
    }

    private static void bytesBehindANameStay() {
        Bench.says("Terms", "One that goes is replaced by the last one");
        Bench bench = altered(64, entries -> Arrays.fill(entries, 32 + 4, 64, (byte) 'x'), ENTRIES);
        Bench.same("remove", bench.remove("f"), 1);
        bench.list("");
        Bench.same("as it is", bench.result(0, 32), "\0\2\1d" + "x".repeat(28));
        Bench.says("Terms", "length of the name, 29 bytes, zeros behind the name");
        Bench.same("move", bench.move("d", "e"), 2);
        bench.list("");
        Bench.same("a new one is new", bench.result(0, 32), "\0\2\1e" + "\0".repeat(28));
    }

    /** d has an ENTRY f that names d itself. */
    private static void insideOfItself() {
        Bench bench = withBoth(64);
        bench.move("f", "d/f");
        bench.disk.sync();
        Forge.of(bench.disk).alter(entries -> entries[1] = 2, TABLE, 0, 0, INODE_2 + 8);
        bench.disk.mount(8);
        Bench.says("Promise 10", "-7: it is the top, or would be inside of itself");
        Bench.same("d in d", bench.told("d/f/f/f", 2), 2);
        Bench.same("the first of -7 and -6", bench.move("d", "d/f"), -7);
        Bench.same("further down", bench.move("d/f", "d/f/f/x"), -7);
        Bench.same("it goes where it is not", bench.move("d/f", "x"), 2);
        Bench.same("x is d now", bench.names(""), "d=2 x=2");
    }
}
