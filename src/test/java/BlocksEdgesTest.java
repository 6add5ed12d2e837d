import java.util.function.Supplier;

/** The edges that 'Terms' names: the CACHE, the MAPS, blocks that change, TREES that grow and shrink, COMMIT. */
public final class BlocksEdgesTest {
    private BlocksEdgesTest() {
    }

    public static void main(String[] args) {
        freshFromMemory();
        cacheOfTwo();
        cacheOfSixtyFour();
        usedLongestAgo();
        takenLeavesTheCache();
        leastNumber();
        freshIsChangedInMemory();
        oldStaysCommitted();
        zerosForNone();
        changedFromThePointerDown();
        inTheirOrder();
        onlyNodesHaveTrees();
        heightGrows();
        lastBlockShrinks();
        lastBlockIsNone();
        noneIsToldByNodes();
        wholeBlocksGo();
        nodesGoAtOnce();
        heightShrinks();
        topNodeIsNotChanged();
        nodesThatGoAreChanged();
        freshIsFreeAgain();
        nothingToCommit();
        changesThatCancelOut();
        commitLeaves();
        rootIsTaken();
        everyReadIsVouchedFor();
        Bench.finish("BlocksEdgesTest");
    }

    /** A FILE a with the bytes in the top DIRECTORY, COMMITTED; all of the CACHE's blocks are still to be read. */
    private static Bench committed(int blocks, int cache, int bytes) {
        Bench bench = Bench.mounted(blocks, 8);
        bench.make("a", 1);
        bench.write("a", Bench.pattern(bytes), 0);
        bench.disk.sync();
        bench.disk.mount(cache);
        return bench;
    }

    private static void freshFromMemory() {
        Bench.says("Terms", "A block that a POINTER names: FRESH: from memory");
        Bench bench = Bench.mounted(64, 4);
        bench.make("a", 1);
        bench.write("a", Bench.pattern(600), 0);
        for (int block = 4; block < 16; block++) {
            bench.disk.flip(block, 0, 255, 0);
        }
        int cached = bench.disk.count(7);
        Bench.same("no access", bench.spent(() -> bench.read("a", 0, 600)), 0);
        Bench.same("600 bytes", bench.disk.count(11), 600);
        Bench.same("the last", bench.disk.result(599), Bench.pattern(600)[599] & 255);
        Bench.same("nor does it come to the cache", bench.disk.count(7), cached);
    }

    private static void cacheOfTwo() {
        Bench.says("Terms", "in place of the one used longest ago if there are C");
        Bench bench = committed(64, 2, 1);
        bench.disk.power(2);
        Bench.same("a first block", bench.told("", 0), -2);
        bench.disk.mount(2);
        Bench.same("none at first", bench.disk.count(7), 0);
        Bench.same("the table, the entry, the table again", bench.spent(() -> bench.told("a", 0)), 7);
        Bench.same("two", bench.disk.count(7), 2);
        Bench.same("all again", bench.spent(() -> bench.told("a", 0)), 7);
        Bench.same("two", bench.disk.count(7), 2);
        Bench three = committed(64, 3, 1);
        Bench.same("with three: the entry drives one out", three.spent(() -> three.told("a", 0)), 7);
        Bench.same("three", three.disk.count(7), 3);
        Bench high = Bench.mounted(64, 8);
        high.make("a", 1);
        high.size("a", 1792);
        high.size("a", 1793);
        high.write("a", "xyz", 0);
        high.disk.sync();
        high.disk.mount(2);
        Bench.same("two nodes and a data block, once for all its bytes", high.spent(() -> high.read("a", 0, 3)), 7 + 3);
        Bench four = committed(64, 4, 1);
        Bench.same("with four", four.spent(() -> four.told("a", 0)), 4);
        Bench.same("and nothing again", four.spent(() -> four.told("a", 0)), 0);
    }

    private static void cacheOfSixtyFour() {
        Bench.says("Terms", "it comes to the CACHE, in place of the one used longest ago if there are C");
        Bench bench = Bench.mounted(256, 8);
        bench.make("a", 1);
        fillSeventy(bench, 1);
        bench.disk.sync();
        bench.disk.mount(64);
        bench.told("a", 0);
        Bench.same("the table and the entry", bench.disk.count(7), 4);
        // Behind them: the top NODE, a NODE for each 49 DATA blocks, one for each 7, the DATA blocks.
        for (int i = 0; i < 70; i++) {
            bench.read("a", 256 * i, 1);
            int read = 4 + 1 + (i / 49 + 1) + (i / 7 + 1) + (i + 1);
            Bench.same("with data block " + i, bench.disk.count(7), Math.min(read, 64));
        }
        Bench.same("the last one is there", bench.spent(() -> bench.read("a", 256 * 69, 1)), 0);
        Bench.same("the first is not, nor is its node", bench.spent(() -> bench.read("a", 0, 1)), 2);
    }

    private static void usedLongestAgo() {
        Bench.says("Terms", "In the CACHE: that, and it is the one used last");
        Bench bench = committed(64, 4, 1);
        bench.size("a", 512);
        bench.disk.sync();
        bench.disk.mount(4);
        Bench.same("the table, the entry", bench.spent(() -> bench.told("a", 0)), 4);
        Bench.same("the node takes the entry's place", bench.spent(() -> bench.read("a", 256, 1)), 1);
        Bench.same("the table is there", bench.spent(() -> bench.told("", 0)), 0);
        Bench.same("the entry is not: it takes the node's place", bench.spent(() -> bench.told("a", 0)), 1);
        Bench.same("the table is there", bench.spent(() -> bench.told("", 0)), 0);
        Bench.same("the node is not", bench.spent(() -> bench.read("a", 256, 1)), 1);
    }

    private static void takenLeavesTheCache() {
        Bench.says("Terms", "and out of the CACHE, if that has it");
        Bench bench = Bench.mounted(64, 8);
        bench.make("a", 1);
        bench.disk.sync();
        Bench.same("0, 1 and 2, that are no more used, are in it", bench.disk.count(7), 3);
        bench.told("a", 0);
        Bench.same("with 4, 5, 6 and 7", bench.disk.count(7), 7);
        bench.write("a", "x", 0);
        Bench.same("0, 1 and 2 are taken again, and 3", bench.disk.count(7), 4);
        bench.disk.sync();
        Bench.same("0, 1, 2 are read", bench.spent(() -> bench.told("", 0)), 3);
        Bench.same("the entry is there", bench.spent(() -> bench.told("a", 0)), 0);
        Bench.same("and the new bytes are read", bench.content("a"), "x");
        Bench others = Bench.mounted(64, 8);
        for (int i = 1; i <= 7; i++) {
            others.make("f" + i, 1);
        }
        others.disk.sync();
        others.disk.mount(9);
        others.write("f1", "x", 0);
        others.disk.sync();
        others.read("f1", 0, 1);
        others.told("f5", 0);
        Bench.same("three that are no more used, and six", others.disk.count(7), 9);
        others.make("f8", 1);
        Bench.same("the three are taken", others.disk.count(7), 6);
        others.disk.sync();
        Bench.same("the table and the entries drive out the data block", others.spent(() -> others.told("f1", 0)), 4);
        Bench.same("the inodes of f5 were used behind it", others.spent(() -> others.told("f5", 0)), 0);
    }

    private static void leastNumber() {
        Bench.says("Terms", "the least number that neither MAP has as used");
        Bench bench = Bench.mounted(64, 8);
        // The fourth needs another block of the TABLE: 0 1 2 3 and 8, so that ROOT's is 10.
        int[] roots = {8, 9, 8, 10};
        for (int i = 0; i < 4; i++) {
            bench.make("f" + i, 1);
            bench.disk.sync();
            Bench.same("ROOT of commit " + (i + 2), bench.disk.count(9), roots[i]);
        }
    }

    private static void freshIsChangedInMemory() {
        Bench.says("Terms", "Changing a block: FRESH: in memory");
        Bench bench = committed(64, 8, 1);
        bench.write("a", "x", 0);
        Bench.same("the table and the data block", bench.disk.count(6), 4);
        int free = bench.disk.count(5);
        bench.write("a", "y", 0);
        bench.write("a", "z", 255);
        Bench.same("nothing more", bench.disk.count(6), 4);
        Bench.same("nothing more", bench.disk.count(5), free);
    }

    private static void oldStaysCommitted() {
        Bench.says("Terms", "the old one is no more used in the WORKING MAP (but in the COMMITTED one)");
        Bench bench = committed(64, 8, 1);
        int free = bench.disk.count(5);
        bench.write("a", "x", 0);
        Bench.same("4 are taken", bench.disk.count(5), free - 4);
        bench.disk.off();
        bench.disk.mount(8);
        Bench.same("what was committed is there", bench.content("a"), "\1");
        bench.write("a", "x", 0);
        bench.disk.sync();
        Bench.same("the old ones are free", bench.disk.count(5), free);
        Bench large = Bench.mounted(256, 8);
        large.make("a", 1);
        fillSeventy(large, 1);
        large.disk.sync();
        // 70 DATA blocks, 13 NODES, the TABLE, the ENTRY, ROOT.
        Bench.same("free", large.disk.count(5), 256 - 88);
        fillSeventy(large, 2);
        Bench.same("as many are fresh, but the entry", large.disk.count(6), 86);
        Bench.same("none of them was used before", large.disk.count(5), 256 - 88 - 86);
        large.disk.off();
        large.disk.mount(8);
        for (int i = 0; i < 35; i++) {
            large.read("a", 512 * i + 254, 4);
            Bench.same("what was committed is there", large.result(), "\0\0\1\0");
        }
        fillSeventy(large, 3);
        large.disk.sync();
        Bench.same("the old ones are free", large.disk.count(5), 256 - 88);
    }

    /** Bytes in 70 DATA blocks of a. */
    private static void fillSeventy(Bench bench, int value) {
        for (int i = 0; i < 35; i++) {
            bench.disk.feed(0x61000000, 0, value, 0, 0);
            bench.disk.write(1, 512 * i + 246);
        }
    }

    private static void zerosForNone() {
        Bench.says("Terms", "for NONE zeros, a NODE's 7 TREES being NONE");
        Bench bench = Bench.mounted(64, 8);
        bench.make("a", 1);
        bench.make("b", 1);
        bench.write("a", Bench.pattern(300), 0);
        bench.size("a", 0);
        bench.size("b", 1792);
        bench.write("b", "x", 700);
        bench.read("b", 512, 256);
        Bench.same("zeros, though the memory was used before", bench.result(), "\0".repeat(188) + "x" + "\0".repeat(67));
        bench.disk.sync();
        bench.disk.mount(8);
        Bench.same("the other trees", bench.read("b", 0, 1792), 1792);
        for (int i = 0; i < 1792; i += 28) {
            Bench.same("byte " + i, bench.disk.result(i), i == 700 ? 'x' : 0);
        }
    }

    /** The numbers of the blocks that a COMMIT writes, in its order: POWER fails ever later. */
    private static String written(Supplier<Bench> run) {
        StringBuilder order = new StringBuilder();
        boolean[] seen = new boolean[20];
        for (int stop = 2; stop < 20; stop++) {
            Bench bench = run.get();
            // So that a block is another one, even if the same is written to it again.
            for (int block = 0; block < seen.length; block++) {
                bench.disk.flip(block, 0, 255, 0);
            }
            int[] before = someBytes(bench);
            bench.disk.power(stop);
            boolean whole = bench.disk.sync() > 0;
            int[] after = someBytes(bench);
            for (int block = 0; block < seen.length; block++) {
                if (before[block] != after[block] && !seen[block]) {
                    seen[block] = true;
                    order.append(block).append(' ');
                }
            }
            if (whole) {
                break;
            }
        }
        return order.toString().trim();
    }

    /** A byte of each INODE that a block may have, for the first 20 blocks. */
    private static int[] someBytes(Bench bench) {
        int[] bytes = new int[20];
        for (int block = 0; block < bytes.length; block++) {
            for (int at = 0; at < 256; at += 64) {
                bytes[block] = bytes[block] << 8 | bench.disk.disk(block, at);
            }
        }
        return bytes;
    }

    /** COMMITTED: FILES f1 f2 f3, INODES 1 to 3, and a DIRECTORY d, INODE 4, in another block of the TABLE. */
    private static Bench withFour() {
        Bench bench = Bench.mounted(64, 16);
        bench.make("f1", 1);
        bench.make("f2", 1);
        bench.make("f3", 1);
        bench.make("d", 2);
        bench.disk.sync();
        return bench;
    }

    private static void changedFromThePointerDown() {
        Bench.says("Terms", "A TREE is changed from its POINTER down: each NODE on the way, then the DATA block");
        // The TABLE 4 5 6, the ENTRY 7, then the FILE's: the top NODE 8, a NODE 9, the DATA block 10; ROOT 11.
        Bench.same("written", written(() -> {
            Bench bench = Bench.mounted(256, 8);
            bench.make("a", 1);
            bench.size("a", 12544);
            bench.write("a", "x", 0);
            return bench;
        }), "7 10 9 8 6 5 4 11");
        Bench.says("Terms", "as often as needed a block is TAKEN for a NODE whose first TREE is the old one");
        // The DATA block 8, then a NODE 9 above it, then a NODE 10 above that; a NODE 11 and DATA block 12 beside.
        Bench.same("written", written(() -> {
            Bench bench = Bench.mounted(64, 8);
            bench.make("a", 1);
            bench.write("a", "x", 0);
            bench.size("a", 1793);
            bench.write("a", "x", 1792);
            return bench;
        }), "7 8 9 12 11 10 6 5 4 13");
    }

    private static void inTheirOrder() {
        // COMMITTED: the TABLE 4 5 6 and 8, the ENTRIES 7, ROOT 9. Free: 0 1 2 3, then 10 and above.
        Bench.says("Promise 8", "first its INODE (the least that is free, from 0 on, is looked for), then its ENTRY");
        Bench.same("the table 0 1, inode 5 in 2, inode 0 in 3, the entries 10", written(() -> {
            Bench bench = withFour();
            bench.make("f5", 1);
            return bench;
        }), "10 3 2 1 0 11");
        Bench.says("Promise 9", "first its TREE as by size 0, then its INODE becomes all zeros, then its ENTRY goes");
        Bench.same("the table 0 1, inode 4 in 2, inode 0 in 3, the entries 10", written(() -> {
            Bench bench = withFour();
            bench.remove("d");
            return bench;
        }), "10 3 2 1 0 11");
        // COMMITTED then: the TABLE 0 1 2 and 6, ENTRIES 3 and 7, a NODE 10, DATA blocks 11 12, ROOT 13.
        Bench.same("the table 4 5 8; the node that goes is changed to 9, which ROOT has then", written(() -> {
            Bench bench = withFour();
            bench.make("d/e", 1);
            bench.write("d/e", Bench.pattern(257), 0);
            bench.disk.sync();
            bench.remove("d/e");
            return bench;
        }), "8 5 4 9");
        Bench.says("Promise 10", "first the ENTRY goes in the old DIRECTORY, then it is the last in the new one");
        Bench.same("the table 0 1, inode 0 in 2, its entries 3, inode 4 in 10, its entry 11", written(() -> {
            Bench bench = withFour();
            bench.move("f1", "d/f1");
            return bench;
        }), "3 11 2 10 1 0 12");
        Bench.says("Terms", "for each INODE that is not free, from 0 on, whose TREE's POINTER names a FRESH block: "
            + "that TREE is WRITTEN, and its DIGEST put into the POINTER in the INODE; then the TABLE likewise");
        Bench.same("the table 0 1 2; f3's block 3, f1's 10, f2's 11", written(() -> {
            Bench bench = withFour();
            bench.write("f3", "x", 0);
            bench.write("f1", "x", 0);
            bench.write("f2", "x", 0);
            return bench;
        }), "10 11 3 2 1 0 12");
        Bench.says("Promise 11", "first the size grows, if need be");
        Bench.same("the table 0 1 2, then a node 3 and the data block 10", written(() -> {
            Bench bench = withFour();
            bench.write("f1", "x", 256);
            return bench;
        }), "10 3 2 1 0 11");
    }

    private static void onlyNodesHaveTrees() {
        Bench.says("Terms", "WRITTEN: of a NODE first the TREES whose POINTERS name FRESH blocks, in order");
        Bench bench = Bench.mounted(64, 8);
        bench.make("a", 1);
        bench.size("a", 512);
        // A DATA block whose bytes read like POINTERS to blocks that are FRESH: 4 .. 8.
        for (int i = 0; i < 7; i++) {
            bench.tape(Bench.joined(Bench.bytes("a"), new byte[] {0, 0, 0, (byte) (4 + i % 5)})).disk.write(1, 36 * i);
        }
        Bench.same("accesses: 6 blocks, ROOT, the register", bench.spent(bench.disk::sync), 8);
        bench.disk.mount(8);
        bench.read("a", 0, 256);
        for (int i = 0; i < 256; i++) {
            Bench.same("byte " + i, bench.disk.result(i), i < 252 && i % 36 == 3 ? 4 + i / 36 % 5 : 0);
        }
    }

    private static void heightGrows() {
        Bench.says("Terms", "as often as needed a block is TAKEN for a NODE whose first TREE is the old one");
        int[] sizes = {256, 257, 1792, 1793, 12544, 12545, 65536};
        int[] due = {0, 1, 1, 2, 2, 3, 3};
        for (int i = 0; i < sizes.length; i++) {
            Bench bench = Bench.mounted(1024, 8);
            bench.make("a", 1);
            bench.make("none", 1);
            bench.write("a", "x", 0);
            bench.disk.sync();
            bench.disk.mount(8);
            bench.told("a", 0);
            int size = sizes[i];
            Bench.same("no block is read for " + size, bench.spent(() -> bench.size("a", size)), 0);
            Bench.same("the table and the nodes for " + sizes[i], bench.disk.count(6), 3 + due[i]);
            bench.read("a", 0, 2);
            Bench.same("the first tree is the old one", bench.result(), "x\0");
            Bench.says("Terms", "nothing is TAKEN if the TREE is NONE");
            bench.size("none", sizes[i]);
            Bench.same("nothing for " + sizes[i], bench.disk.count(6), 3 + due[i]);
            Bench.same("height", bench.told("none", 3), due[i]);
        }
    }

    private static void lastBlockShrinks() {
        Bench.says("Terms", "bytes behind the new size in its last DATA block become 0 "
            + "(if that block is not NONE; size a multiple of 256: nothing)");
        int[] sizes = {513, 512, 511, 257, 256, 255, 1};
        // The NODE is read, and the block that has the new end; FRESH: the TABLE, a NODE, that block.
        int[] read = {2, 1, 2, 2, 1, 2, 2};
        int[] fresh = {5, 4, 5, 5, 3, 4, 4};
        for (int i = 0; i < sizes.length; i++) {
            Bench bench = committed(64, 8, 600);
            int size = sizes[i];
            bench.told("a", 0);
            Bench.same("reads for " + size, bench.spent(() -> bench.size("a", size)), read[i]);
            Bench.same("fresh for " + size, bench.disk.count(6), fresh[i]);
            bench.size("a", 600);
            bench.read("a", size - 1, 257);
            Bench.same("the last byte of " + size, bench.disk.result(0), Bench.pattern(600)[size - 1] & 255);
            int behind = bench.disk.count(11) - 1;
            Bench.same("behind it", bench.result(1, 1 + behind), "\0".repeat(Math.min(256, 600 - size)));
        }
    }

    private static void lastBlockIsNone() {
        Bench.says("Terms", "if that block is not NONE");
        Bench bench = Bench.mounted(64, 8);
        bench.make("a", 1);
        bench.size("a", 1792);
        bench.write("a", "x", 0);
        bench.disk.sync();
        bench.disk.mount(8);
        bench.told("a", 0);
        Bench.same("the node alone is read", bench.spent(() -> bench.size("a", 1000)), 1);
        Bench.same("the table alone is fresh", bench.disk.count(6), 3);
        Bench.same("size", bench.told("a", 1), 1000);
        Bench hollow = Bench.mounted(64, 8);
        hollow.make("a", 1);
        hollow.size("a", 1000);
        Bench.same("a tree that is NONE", hollow.size("a", 100), 100);
        Bench.same("stays NONE", hollow.disk.count(6), 4);
    }

    private static void noneIsToldByNodes() {
        Bench.says("Terms", "Whether a DATA block is NONE is told by NODES alone");
        Bench bench = Bench.mounted(1024, 8);
        bench.make("a", 1);
        bench.size("a", 65536);
        bench.write("a", "x", 256 * 49);
        bench.disk.sync();
        // Of DATA blocks 0, 48, 56, 50, 49 and 255; the last of these is below another NODE of the top one.
        int[] blocks = {0, 48, 56, 50, 49, 255};
        int[] reads = {1, 1, 2, 3, 4, 1};
        for (int i = 0; i < blocks.length; i++) {
            bench.disk.mount(8);
            bench.told("a", 0);
            int at = 256 * blocks[i];
            Bench.same("reads for data block " + blocks[i], bench.spent(() -> bench.read("a", at, 1)), reads[i]);
            Bench.same("its byte", bench.disk.result(0), blocks[i] == 49 ? 'x' : 0);
        }
        bench.disk.mount(8);
        bench.told("a", 0);
        Bench.same("a data block that goes is not read", bench.spent(() -> bench.size("a", 256)), 3);
    }

    private static void wholeBlocksGo() {
        Bench.says("Terms", "for each whole DATA block, in falling order, that is not NONE: "
            + "it is no more used, and its POINTER becomes NONE (the NODES on the way are changed)");
        Bench bench = committed(64, 8, 1025);
        Bench.same("5 data blocks, a node, the table, the entry, ROOT", bench.disk.count(5), 64 - 11);
        bench.size("a", 1024);
        Bench.same("the table and the node are changed", bench.disk.count(6), 4);
        bench.disk.sync();
        Bench.same("one data block went", bench.disk.count(5), 64 - 10);
        bench.size("a", 513);
        bench.disk.sync();
        Bench.same("one more: the third has a byte", bench.disk.count(5), 64 - 9);
        bench.size("a", 512);
        bench.disk.sync();
        Bench.same("now it went", bench.disk.count(5), 64 - 8);
        bench.size("a", 257);
        bench.disk.sync();
        Bench.same("none", bench.disk.count(5), 64 - 8);
        bench.size("a", 256);
        bench.disk.sync();
        Bench.same("a data block and the node", bench.disk.count(5), 64 - 6);
        bench.size("a", 0);
        bench.disk.sync();
        Bench.same("the last one", bench.disk.count(5), 64 - 5);
    }

    private static void nodesGoAtOnce() {
        Bench.says("Terms", "a NODE, all of whose TREES are NONE, likewise, at once");
        Bench bench = Bench.mounted(1024, 8);
        bench.make("a", 1);
        bench.size("a", 65536);
        bench.write("a", "x", 256 * 7);
        bench.write("a", "x", 256 * 49);
        bench.write("a", "x", 256 * 50);
        // TABLE and ENTRY 4; the top NODE; a NODE, a NODE, DATA block 7; a NODE, a NODE, DATA blocks 49 and 50.
        Bench.same("fresh", bench.disk.count(6), 12);
        bench.size("a", 256 * 50);
        Bench.same("data block 50 alone: its node has another", bench.disk.count(6), 11);
        bench.size("a", 256 * 50 - 1);
        Bench.same("data block 49 has bytes", bench.disk.count(6), 11);
        bench.size("a", 256 * 49 + 1);
        Bench.same("data block 49 has a byte", bench.disk.count(6), 11);
        bench.size("a", 256 * 49);
        Bench.same("data block 49, its two nodes, and the top one for the height", bench.disk.count(6), 7);
        bench.size("a", 256 * 8);
        Bench.same("nothing behind data block 7", bench.disk.count(6), 7);
        bench.size("a", 256 * 7);
        Bench.same("data block 7 and its nodes", bench.disk.count(6), 4);
    }

    private static void heightShrinks() {
        Bench.says("Terms", "while the height is above the least: the first TREE of the top NODE becomes the TREE, "
            + "and that NODE is no more used (NONE stays NONE)");
        int[] sizes = {12545, 12544, 1793, 1792, 257, 256, 1};
        int[] due = {3, 2, 2, 1, 1, 0, 0};
        for (int i = 0; i < sizes.length; i++) {
            Bench bench = Bench.mounted(1024, 8);
            bench.make("a", 1);
            bench.make("none", 1);
            bench.write("a", "x", 0);
            bench.size("a", 65536);
            bench.size("none", 65536);
            bench.disk.sync();
            int used = 1024 - bench.disk.count(5);
            bench.size("a", sizes[i]);
            bench.size("none", sizes[i]);
            Bench.same("height", bench.told("a", 3), due[i]);
            Bench.same("height of NONE", bench.told("none", 3), due[i]);
            bench.disk.sync();
            Bench.same("nodes that went for " + sizes[i], used - (1024 - bench.disk.count(5)), 3 - due[i]);
            bench.disk.mount(2);
            bench.read("a", 0, 1);
            Bench.same("the first tree", bench.result(), "x");
            bench.read("none", 0, 1);
            Bench.same("NONE", bench.result(), "\0");
        }
    }

    /** In the CACHE: 4 5 6 8 9, no more used, and the ENTRY 7. The TABLE is 0 1 2, the NODE 3, a DATA block 11. */
    private static Bench withOldBlocksInTheCache() {
        Bench bench = Bench.mounted(64, 16);
        bench.make("a", 1);
        bench.write("a", "x", 0);
        bench.size("a", 512);
        bench.disk.sync();
        bench.write("a", "y", 0);
        bench.disk.sync();
        Bench.same("the cache", bench.disk.count(7), 6);
        return bench;
    }

    private static void nodesThatGoAreChanged() {
        Bench.says("Terms", "(the NODES on the way are changed)");
        Bench bench = withOldBlocksInTheCache();
        bench.size("a", 0);
        Bench.same("the table takes 4 5 6, the node 8", bench.disk.count(7), 6);
        Bench.same("but that is free again", bench.disk.count(6), 3);
    }

    private static void topNodeIsNotChanged() {
        Bench.says("Terms", "the first TREE of the top NODE becomes the TREE, and that NODE is no more used");
        Bench bench = withOldBlocksInTheCache();
        bench.size("a", 256);
        Bench.same("the table takes 4 5 6, and nothing takes 8", bench.disk.count(7), 7);
        Bench.same("fresh", bench.disk.count(6), 3);
        Bench.same("content", bench.read("a", 0, 1), 1);
        Bench.same("content", bench.result(), "y");
    }

    private static void freshIsFreeAgain() {
        Bench.says("Terms", "A block that is no more used is not FRESH any more; a block that was FRESH is FREE then");
        Bench bench = Bench.mounted(64, 8);
        bench.make("a", 1);
        int free = bench.disk.count(5);
        int fresh = bench.disk.count(6);
        bench.write("a", Bench.pattern(300), 0);
        Bench.same("a node and two data blocks", bench.disk.count(5), free - 3);
        bench.size("a", 0);
        Bench.same("free again", bench.disk.count(5), free);
        Bench.same("not fresh any more", bench.disk.count(6), fresh);
        bench.write("a", Bench.pattern(300), 0);
        bench.disk.sync();
        int committed = bench.disk.count(5);
        bench.size("a", 0);
        Bench.same("the table's 3 were taken, what was committed is not free", bench.disk.count(5), committed - 3);
        bench.disk.sync();
        Bench.same("now it is", bench.disk.count(5), committed + 3);
    }

    private static void nothingToCommit() {
        Bench.says("Terms", "COMMIT, if there is anything FRESH or a file was changed");
        Bench bench = committed(64, 8, 5);
        int accesses = bench.disk.count(2);
        Bench.same("sync", bench.disk.sync(), 2);
        Bench.same("no access", bench.disk.count(2), accesses);
        bench.read("a", 0, 5);
        bench.list("");
        bench.told("a", 0);
        bench.write("a", "", 9);
        bench.size("a", 5);
        Bench.same("calls that change nothing", bench.disk.sync(), 2);
        Bench.same("nothing is fresh", bench.disk.count(6), 0);
        bench.size("a", 4);
        Bench.same("one that does", bench.disk.sync(), 3);
    }

    private static void changesThatCancelOut() {
        Bench.says("Terms", "if there is anything FRESH or a file was changed (which always leaves something FRESH)");
        Bench bench = Bench.mounted(64, 8);
        bench.make("a", 1);
        bench.remove("a");
        Bench.same("the table is fresh", bench.disk.count(6), 3);
        Bench.same("sync", bench.disk.sync(), 2);
        bench.make("b", 1);
        bench.disk.sync();
        bench.move("b", "c");
        bench.move("c", "b");
        Bench.same("the table and the entry are fresh", bench.disk.count(6), 4);
        Bench.same("sync", bench.disk.sync(), 4);
    }

    private static void commitLeaves() {
        Bench.says("Terms", "Nothing is FRESH then, the WORKING MAP is the COMMITTED one. The CACHE stays");
        Bench bench = committed(64, 8, 5);
        bench.write("a", "x", 0);
        int cached = bench.disk.count(7);
        Bench.same("the table, the entry and the data block", cached, 5);
        bench.disk.sync();
        Bench.same("nothing is fresh", bench.disk.count(6), 0);
        Bench.same("the cache stays", bench.disk.count(7), cached);
        Bench.same("free: all but the table, the entry, the data block, ROOT", bench.disk.count(5), 64 - 6);
        Bench.same("the table and the data block are read, the entry is there",
            bench.spent(() -> bench.read("a", 0, 1)), 4);
    }

    private static void rootIsTaken() {
        Bench.says("Terms", "then a block is TAKEN for ROOT, the old ROOT's is no more used");
        Bench bench = Bench.mounted(64, 8);
        bench.make("a", 1);
        bench.disk.sync();
        Bench.same("ROOT", bench.disk.count(9), 8);
        bench.write("a", "x", 0);
        Bench.same("0, 1 and 2 for the table, 3 for the data block", bench.disk.count(6), 4);
        bench.disk.sync();
        Bench.same("ROOT: 4, 5, 6, 7 and 8 were still used", bench.disk.count(9), 9);
    }

    private static void everyReadIsVouchedFor() {
        Bench.says("Terms", "its DIGEST must be the POINTER's, else TAMPERED");
        for (int access = 1; access <= 6; access++) {
            Bench bench = committed(64, 8, 300);
            // A read of both DATA blocks: the TABLE's 3, the ENTRY, the NODE, the DATA blocks.
            int[] order = {4, 5, 6, 7, 8, 9, 10};
            bench.disk.flip(order[access], 200, 16, access);
            Bench.same("altered one read before", bench.read("a", 0, 300), -1);
            Bench late = committed(64, 8, 300);
            late.disk.flip(order[access - 1], 200, 16, access + 1);
            Bench.same("altered one read behind", late.read("a", 0, 300), 300);
        }
    }
}
