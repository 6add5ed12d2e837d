import java.util.function.Consumer;

/**
 * The edges that only a DISK with right DIGESTS over wrong blocks comes to, and those of COUNT that no run
 * of 512 calls does. They are laid on by Forge, which knows how LyingDisk holds its state.
 */
public final class ForgedEdgesTest {
    private static final int TABLE = 8;
    private static final int INODE_0 = 0;
    private static final int INODE_1 = 64;
    private static final int INODE_2 = 128;
    private static final int INODE_3 = 192;
    private static final int NOWHERE = 60;

    private ForgedEdgesTest() {
    }

    public static void main(String[] args) {
        if (Forge.of(new LyingDisk()) == null) {
            System.out.println("ForgedEdgesTest: LyingDisk holds its state in another way; nothing was forged");
            return;
        }
        nothingAltered();
        tablePointer();
        tablePointerInTheLastBlock();
        nodePointers();
        inodePointers();
        filePointers();
        digests();
        pointersFromTheCache();
        freeInodesPointers();
        sorts();
        sizesAndHeights();
        directorySizes();
        entryNumbers();
        entriesThatAreNone();
        lowBitsOfCount();
        Bench.finish("ForgedEdgesTest");
    }

    /** The TABLE 4 5 6, the ENTRIES 7; a FILE f, INODE 1, a NODE 8 and DATA blocks 9 10; d, INODE 2; ROOT 11. */
    private static Bench withBoth() {
        Bench bench = Bench.mounted(64, 8);
        bench.make("f", 1);
        bench.make("d", 2);
        bench.write("f", Bench.pattern(300), 0);
        bench.disk.sync();
        return bench;
    }

    private static Bench altered(Consumer<byte[]> change, int... way) {
        Bench bench = withBoth();
        Forge.of(bench.disk).alter(change, way);
        return bench;
    }

    private static Bench alteredInodes(Consumer<byte[]> change) {
        Bench bench = altered(change, TABLE, 0, 0);
        Bench.same("mount", bench.disk.mount(8), 2);
        return bench;
    }

    private static void nothingAltered() {
        Bench.says("Forge", "what was put right again is as it was");
        for (int[] way : new int[][] {{}, {TABLE}, {TABLE, 0}, {TABLE, 0, 0}, {TABLE, 0, 0, INODE_1 + 8, 36}}) {
            Bench bench = altered(block -> { }, way);
            Bench.same("mount", bench.disk.mount(8), 2);
            Bench.same("read", bench.read("f", 0, 300), 300);
        }
        Bench bench = altered(block -> block[0] = 'F', TABLE, 0, 0, INODE_1 + 8, 0);
        bench.disk.mount(8);
        bench.read("f", 0, 1);
        Bench.same("what was altered is there", bench.result(), "F");
    }

    private static void tablePointer() {
        Bench.says("Terms", "So must the TABLE's POINTER at mount, and that not be NONE either");
        for (int number : new int[] {-1, 12, 63, 64, 65, 0x7fffffff, 0x80000004, -2}) {
            Bench bench = altered(root -> Forge.put4(root, TABLE, number));
            Bench.same("the table in block " + number, bench.disk.mount(8), -1);
            Bench.same("sealed", bench.disk.count(4), 1);
            Bench.same("mounted", bench.disk.count(3), 0);
        }
        Bench unused = altered(root -> root[64] = 0x07);
        Bench.same("the map has not its block", unused.disk.mount(8), -1);
        Bench other = altered(root -> Forge.put4(root, TABLE, 7));
        Bench.same("another used block", other.disk.mount(8), 2);
        Bench.same("with another digest", other.told("", 0), -1);
    }

    private static void tablePointerInTheLastBlock() {
        Bench.says("Terms", "must name a block of the DISK that the COMMITTED MAP has as used");
        Bench bench = withBoth();
        Forge forge = Forge.of(bench.disk);
        forge.alter(root -> root[64 + 7] = 1);
        forge.moveTable(63);
        Bench.same("the last block, used", bench.disk.mount(8), 2);
        Bench.same("all is there", bench.names(""), "f=1 d=2");
        Bench unused = withBoth();
        Forge.of(unused.disk).moveTable(63);
        Bench.same("the last block, not used", unused.disk.mount(8), -1);
        Bench large = new Bench();
        large.disk.format(1024);
        Forge.of(large.disk).alter(root -> root[64 + 127] = 1);
        large.disk.mount(8);
        Bench.same("the map's very last bit", large.disk.count(5), 1024 - 5);
        Forge.of(large.disk).moveTable(1023);
        Bench.same("the very last block", large.disk.mount(8), 1);
        Bench.same("the very last block", large.list(""), 0);
        Bench behind = withBoth();
        forge = Forge.of(behind.disk);
        forge.alter(root -> root[64 + 8] = (byte) 0x80);
        forge.moveTable(64);
        Bench.same("behind the last block", behind.disk.mount(8), -1);
    }

    private static void nodePointers() {
        Bench.says("Terms", "each POINTER in it that is not NONE ... must name a block of the DISK "
            + "that the COMMITTED MAP has as used: else TAMPERED");
        int[] numbers = {-1, 4, 11, 0, 12, 63, 64, 0x7fffffff, 0x80000004};
        int[] due = {2, 2, 2, -1, -1, -1, -1, -1, -1};
        for (int i = 0; i < numbers.length; i++) {
            int number = numbers[i];
            for (int tree = 1; tree <= 6; tree += 5) {
                int at = 36 * tree;
                Bench top = altered(node -> Forge.put4(node, at, number), TABLE);
                Bench.same("mount", top.disk.mount(8), 2);
                Bench.same("the top node, tree " + tree + ": " + number, top.told("", 0), due[i]);
                Bench.same("sealed", top.disk.count(4), due[i] < 0 ? 1 : 0);
                Bench low = altered(node -> Forge.put4(node, at, number), TABLE, 0);
                Bench.same("mount", low.disk.mount(8), 2);
                Bench.same("the node below, tree " + tree + ": " + number, low.told("", 0), due[i]);
            }
        }
    }

    private static void inodePointers() {
        Bench.says("Terms", "of INODES: of those whose sort is not 0");
        int[] numbers = {-1, 4, 11, 0, 12, 63, 64, 0x80000004};
        int[] due = {2, 2, 2, -1, -1, -1, -1, -1};
        for (int i = 0; i < numbers.length; i++) {
            int number = numbers[i];
            Bench used = alteredInodes(block -> Forge.put4(block, INODE_2 + 8, number));
            Bench.same("of an inode beside: " + number, used.told("", 0), due[i]);
            Bench top = alteredInodes(block -> {
                java.util.Arrays.fill(block, INODE_0 + 8, INODE_0 + 44, (byte) 0);
                Forge.put4(block, INODE_0 + 8, number);
            });
            Bench.same("of the inode itself: " + number, top.told("", 0), due[i]);
            Bench free = alteredInodes(block -> {
                Forge.put4(block, INODE_3, 0x00ffffff);
                Forge.put4(block, INODE_3 + 8, number);
            });
            Bench.same("of a free one: " + number, free.told("", 0), 2);
            Bench three = alteredInodes(block -> {
                Forge.put4(block, INODE_3 + 8, number);
                block[INODE_3] = 3;
            });
            Bench.same("of one with a wrong sort: " + number, three.told("", 0), due[i]);
        }
    }

    private static void filePointers() {
        Bench.says("Terms", "Whenever a NODE, or a DATA block of the TABLE, that is not FRESH is read or changed");
        Bench read = altered(node -> Forge.put4(node, 36 * 6, NOWHERE), TABLE, 0, 0, INODE_1 + 8);
        read.disk.mount(8);
        Bench.same("it is not read yet", read.told("f", 1), 300);
        Bench.same("read", read.read("f", 0, 1), -1);
        Bench written = altered(node -> Forge.put4(node, 36 * 6, NOWHERE), TABLE, 0, 0, INODE_1 + 8);
        written.disk.mount(8);
        Bench.same("changed", written.write("f", "x", 0), -1);
        Bench cut = altered(node -> Forge.put4(node, 36 * 6, NOWHERE), TABLE, 0, 0, INODE_1 + 8);
        cut.disk.mount(8);
        Bench.same("cut", cut.size("f", 256), -1);
        for (int tree : new int[] {0, 2, 6}) {
            Bench other = altered(node -> Forge.put4(node, 36 * tree, NOWHERE), TABLE, 0, 0, INODE_1 + 8);
            other.disk.mount(8);
            Bench.same("another data block, tree " + tree, other.read("f", 256, 1), -1);
        }
        Bench data = altered(block -> Forge.put4(block, 0, NOWHERE), TABLE, 0, 0, INODE_1 + 8, 0);
        data.disk.mount(8);
        Bench.same("a file's data block has none", data.read("f", 0, 300), 300);
    }

    private static void digests() {
        Bench.says("Terms", "its DIGEST must be the POINTER's, else TAMPERED");
        for (int i = 0; i < 32; i++) {
            int at = i;
            Bench table = altered(root -> root[TABLE + 4 + at] ^= 1);
            table.disk.mount(8);
            Bench.same("byte " + i + " of the table's", table.told("", 0), -1);
            Bench file = altered(inodes -> inodes[INODE_1 + 12 + at] ^= (byte) 128, TABLE, 0, 0);
            file.disk.mount(8);
            Bench.same("byte " + i + " of a file's", file.read("f", 0, 1), -1);
            Bench registered = withBoth();
            Forge.of(registered.disk).alterRegister(at);
            Bench.same("byte " + i + " of the register's", registered.disk.mount(8), -1);
        }
    }

    private static void pointersFromTheCache() {
        Bench.says("Terms", "is read or changed (also from the CACHE)");
        // f's first DATA block reads like a NODE with a POINTER to nowhere; a FILE g has that block as its NODE.
        Bench bench = withBoth();
        Forge forge = Forge.of(bench.disk);
        forge.alter(block -> {
            java.util.Arrays.fill(block, (byte) 0);
            Forge.put4(block, 36, NOWHERE);
        }, TABLE, 0, 0, INODE_1 + 8, 0);
        forge.alter(inodes -> {
            System.arraycopy(forgedPointer(forge, inodes), 0, inodes, INODE_3 + 8, 36);
            inodes[INODE_3] = 1;
            inodes[INODE_3 + 1] = 1;
            Forge.put4(inodes, INODE_3 + 4, 257);
        }, TABLE, 0, 0);
        forge.alter(entries -> {
            System.arraycopy(entries, 0, entries, 64, 32);
            entries[64 + 1] = 3;
            entries[64 + 3] = 'g';
        }, TABLE, 0, 0, INODE_0 + 8);
        forge.alter(inodes -> Forge.put4(inodes, INODE_0 + 4, 96), TABLE, 0, 0);
        Bench.same("mount", bench.disk.mount(64), 2);
        Bench.same("as a data block it is read", bench.read("f", 0, 10), 10);
        int accesses = bench.disk.count(2);
        Bench.same("as a node it is looked at", bench.read("g", 0, 10), -1);
        Bench.same("from the cache", bench.disk.count(2), accesses);
    }

    /** The POINTER to the FILE f's first DATA block. */
    private static byte[] forgedPointer(Forge forge, byte[] inodes) {
        byte[] pointer = new byte[36];
        byte[] node = forge.named(inodes, INODE_1 + 8);
        System.arraycopy(node, 0, pointer, 0, 36);
        return pointer;
    }

    private static void freeInodesPointers() {
        Bench.says("Terms", "each POINTER in it that is not NONE");
        Bench bench = withBoth();
        for (int i = 3; i <= 7; i++) {
            bench.make("f" + i, 1);
        }
        bench.disk.sync();
        Forge.of(bench.disk).alter(block -> Forge.put4(block, 64 + 8, NOWHERE), TABLE, 0, 36);
        bench.disk.mount(64);
        Bench.same("a block that is not read", bench.told("f3", 0), 1);
        Bench.same("make looks for a free inode in it", bench.make("x", 1), -1);
    }

    private static void sorts() {
        Bench.says("Terms", "it must have a sort from 0 to 2");
        int[] sorts = {1, 2, 3, 4, 127, 128, 255};
        for (int sort : sorts) {
            Bench bench = alteredInodes(block -> {
                block[INODE_2] = (byte) sort;
            });
            Bench.same("it is not asked for", bench.told("f", 0), 1);
            Bench.same("sort " + sort, bench.told("d", 0), sort <= 2 ? sort : -1);
        }
        Bench.says("Terms", "and the INODE not free: else TAMPERED");
        Bench bench = alteredInodes(block -> block[INODE_2] = 0);
        Bench.same("list", bench.list(""), 2);
        Bench.same("a free one", bench.told("d", 0), -1);
    }

    private static void sizesAndHeights() {
        Bench.says("Terms", "if not 0, a size of at most 65,536 with its height");
        int[][] right = {{0, 0}, {1, 0}, {256, 0}, {257, 1}, {1792, 1}, {1793, 2}, {12544, 2}, {12545, 3}, {65536, 3}};
        for (int[] pair : right) {
            for (int height = 0; height <= 4; height++) {
                Bench.same("size " + pair[0] + ", height " + height, sized(INODE_1, 1, pair[0], height).told("f", 1),
                    height == pair[1] ? pair[0] : -1);
            }
        }
        int[] wrong = {65537, 65536 + 256, 0x01000000, 0x7fffffff, 0x80000000, 0x80000001, -1};
        for (int size : wrong) {
            for (int height = 0; height <= 5; height++) {
                Bench.same("size " + size + ", height " + height, sized(INODE_1, 1, size, height).told("f", 1), -1);
            }
        }
        Bench.same("height 255", sized(INODE_1, 1, 0, 255).told("f", 1), -1);
    }

    /** An INODE with another sort, size and height, and a TREE that is NONE. */
    private static Bench sized(int inode, int sort, int size, int height) {
        return alteredInodes(block -> {
            block[inode] = (byte) sort;
            block[inode + 1] = (byte) height;
            Forge.put4(block, inode + 4, size);
            java.util.Arrays.fill(block, inode + 8, inode + 44, (byte) 0);
            Forge.put4(block, inode + 8, -1);
        });
    }

    private static void directorySizes() {
        Bench.says("Terms", "a DIRECTORY 32 times 0 to 64");
        int[] sizes = {0, 32, 64, 256, 288, 1792, 1824, 2016, 2048, 1, 31, 33, 63, 2047, 2049, 2080, 4096, 65536};
        for (int size : sizes) {
            int height = size <= 256 ? 0 : size <= 1792 ? 1 : size <= 12544 ? 2 : 3;
            boolean right = size % 32 == 0 && size <= 2048;
            Bench.same("a directory of " + size, sized(INODE_2, 2, size, height).told("d", 1), right ? size : -1);
            Bench.same("the top of " + size, sized(INODE_0, 2, size, height).told("", 1), right ? size : -1);
            Bench.same("a file of " + size, sized(INODE_1, 1, size, height).told("f", 1), size);
        }
    }

    private static void entryNumbers() {
        Bench.says("Terms", "the ENTRY's number is below 128");
        int[] numbers = {0, 1, 2, 3, 4, 127, 128, 129, 255, 256, 32768, 65535};
        int[] due = {2, 1, 2, -1, -1, -1, -1, -1, -1, -1, -1, -1};
        for (int i = 0; i < numbers.length; i++) {
            int number = numbers[i];
            Bench bench = altered(entries -> {
                entries[0] = (byte) (number >> 8);
                entries[1] = (byte) number;
            }, TABLE, 0, 0, INODE_0 + 8);
            bench.disk.mount(8);
            Bench.same("the entry beside it", bench.told("d", 0), 2);
            Bench.same("number " + number, bench.told("f", 0), due[i]);
        }
        Bench bench = Bench.mounted(128, 8);
        bench.make("d", 2);
        for (int i = 2; i <= 127; i++) {
            String name = "" + (char) (100 + i);
            bench.make(i < 65 ? name : "d/" + name, 1);
        }
        Bench.same("127 that is not free", bench.told("d/" + (char) (100 + 127), 2), 127);
        bench.disk.sync();
        bench.disk.mount(2);
        Bench.same("127 from the disk", bench.told("d/" + (char) (100 + 127), 2), 127);
    }

    private static void entriesThatAreNone() {
        Bench.says("Terms", "NONE: 256 zeros");
        Bench bench = Bench.mounted(64, 8);
        for (int i = 1; i <= 9; i++) {
            bench.make("" + i, 1);
        }
        bench.remove("2");
        bench.make("2", 1);
        bench.disk.sync();
        // The top's second DATA block, with the ninth ENTRY, becomes NONE.
        Forge.of(bench.disk).alter(node -> {
            java.util.Arrays.fill(node, 36, 72, (byte) 0);
            Forge.put4(node, 36, -1);
        }, TABLE, 0, 0, INODE_0 + 8);
        bench.disk.mount(8);
        Bench.same("not among zeros", bench.told("2", 0), -5);
        Bench.same("9 entries", bench.list(""), 9);
        Bench.same("the ninth", bench.result(256, 288), "\0".repeat(32));
        Bench.same("remove", bench.remove("1"), 1);
        bench.list("");
        Bench.same("zeros in its place", bench.result(0, 32), "\0".repeat(32));
        Bench.same("size", bench.told("", 1), 256);
    }

    private static void lowBitsOfCount() {
        long[] counts = {0x7ffffffeL, 0x7fffffffL, 0x80000000L, 0xfffffffeL, 0xffffffffL, 0x17fffffffL, Long.MAX_VALUE, -1L};
        for (long count : counts) {
            Bench bench = withBoth();
            Forge forge = Forge.of(bench.disk);
            forge.alter(root -> {
                Forge.put4(root, 0, (int) (count >> 32));
                Forge.put4(root, 4, (int) count);
            });
            Bench.says("Promise 6", "COUNT, 31 low bits");
            Bench.same("mount of COUNT " + count, bench.disk.mount(8), count & 0x7fffffff);
            Bench.says("Promise 23", "8 COUNT's 31 low bits");
            Bench.same("count(8) of COUNT " + count, bench.disk.count(8), count & 0x7fffffff);
            Bench.says("Promise 16", "COMMIT: COUNT, 31 low bits");
            Bench.same("sync of nothing", bench.disk.sync(), count & 0x7fffffff);
            bench.make("x", 1);
            Bench.same("sync behind COUNT " + count, bench.disk.sync(), count + 1 & 0x7fffffff);
            Bench.same("count(8)", bench.disk.count(8), count + 1 & 0x7fffffff);
            Bench.says("Terms", "ROOT: COUNT (8)");
            Bench.same("its high bytes", Model.number4(forge.root(), 0), (int) (count + 1 >> 32));
            Bench.same("its low bytes", Model.number4(forge.root(), 4), (int) (count + 1));
            Bench.same("mount", bench.disk.mount(8), count + 1 & 0x7fffffff);
        }
    }
}
