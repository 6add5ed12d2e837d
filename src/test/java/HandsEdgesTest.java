import java.util.NoSuchElementException;
import java.util.function.IntConsumer;

/** The edges that the promises 17 to 24 name: the RESULT, whoever has the DISK, the plug, and the counters. */
public final class HandsEdgesTest {
    private static final int LEAST = Integer.MIN_VALUE;
    private static final int MOST = Integer.MAX_VALUE;

    private HandsEdgesTest() {
    }

    public static void main(String[] args) {
        resultRange();
        resultStays();
        disk();
        flipNow();
        flipArguments();
        flipPlanned();
        flipStopped();
        flipSixtyFour();
        copy();
        imageWithout();
        imageKept();
        imageOfTheLargest();
        imageOfAnotherSize();
        powerArgument();
        powerOnce();
        powerReplaced();
        countOthers();
        countTape();
        countBlocksAndAccesses();
        countMounted();
        countSealed();
        countPlanned();
        register();
        Bench.finish("HandsEdgesTest");
    }

    private static void refusedAll(String what, Class<? extends RuntimeException> due, int[] wrong, IntConsumer call) {
        for (int n : wrong) {
            Bench.refused(what + " with " + n, due, () -> call.accept(n));
        }
    }

    private static Bench withFile() {
        Bench bench = Bench.mounted(64, 8);
        bench.make("f", 1);
        bench.write("f", "text", 0);
        bench.disk.sync();
        return bench;
    }

    private static void resultRange() {
        Bench.says("Promise 17", "Byte i (0 .. 255 is its range) of the last RESULT ... . "
            + "IndexOutOfBoundsException: there is none");
        Bench bench = withFile();
        refusedAll("no result yet", IndexOutOfBoundsException.class, new int[] {LEAST, -1, 0, 1, MOST}, bench.disk::result);
        bench.write("f", "\0\u007f\u0080\u00ff", 0);
        bench.read("f", 0, 4);
        int[] due = {0, 127, 128, 255};
        for (int i = 0; i < 4; i++) {
            Bench.same("result(" + i + ")", bench.disk.result(i), due[i]);
        }
        refusedAll("4 bytes", IndexOutOfBoundsException.class, new int[] {LEAST, -1, 4, 5, 4096, MOST}, bench.disk::result);
        bench.disk.sync();
        Bench.same("size", bench.size("f", 4096), 4096);
        bench.read("f", 0, 4096);
        Bench.same("result(4095)", bench.disk.result(4095), 0);
        refusedAll("4096 bytes", IndexOutOfBoundsException.class, new int[] {-1, 4096}, bench.disk::result);
        bench.read("f", 0, 1);
        refusedAll("1 byte", IndexOutOfBoundsException.class, new int[] {-1, 1, 4095}, bench.disk::result);
        bench.read("f", 4096, 1);
        refusedAll("no byte", IndexOutOfBoundsException.class, new int[] {-1, 0}, bench.disk::result);
    }

    private static void resultStays() {
        Bench.says("Promise 17", "it stays till the next that does not answer below 0");
        Bench bench = withFile();
        bench.read("f", 0, 4);
        bench.make("d", 2);
        bench.write("f", "TEXT", 0);
        bench.size("f", 2);
        bench.told("f", 0);
        bench.move("d", "e");
        bench.remove("e");
        bench.disk.sync();
        bench.read("n", 0, 4);
        bench.read("", 0, 4);
        bench.list("f");
        bench.list("/");
        Bench.refused("read(0, 4097)", IllegalArgumentException.class, () -> bench.disk.read(0, 4097));
        Bench.same("it stays", bench.result(), "text");
        bench.disk.mount(8);
        bench.disk.power(5);
        Bench.same("power fails before the data block", bench.read("f", 0, 4), -2);
        Bench.same("it stays", bench.result(), "text");
        bench.disk.mount(8);
        bench.write("f", Bench.pattern(300), 0);
        bench.disk.sync();
        bench.disk.mount(8);
        bench.disk.power(7);
        Bench.same("power fails before the second data block", bench.read("f", 0, 300), -2);
        Bench.same("it stays", bench.result(), "text");
        bench.disk.mount(8);
        bench.disk.power(4);
        Bench.same("power fails before the entries", bench.list(""), -2);
        bench.disk.off();
        Bench.same("not mounted", bench.read("f", 0, 4), -3);
        Bench.same("it stays", bench.result(), "text");
        bench.disk.mount(8);
        bench.disk.flip(bench.disk.count(9), 0, 1, 0);
        bench.disk.mount(8);
        Bench.same("sealed", bench.list(""), -1);
        bench.disk.format(64);
        Bench.same("it stays", bench.result(), "text");
        bench.disk.mount(8);
        Bench.same("list", bench.list(""), 0);
        Bench.same("the next one", bench.disk.count(11), 0);
    }

    private static void disk() {
        Bench.says("Promise 18", "Byte at of a block of the DISK. NoSuchElementException: no such block. "
            + "IndexOutOfBoundsException: at is not 0 .. 255");
        for (int n : new int[] {64, 1024}) {
            LyingDisk disk = new LyingDisk();
            refusedAll("no disk", NoSuchElementException.class, new int[] {-1, 0, 63}, b -> disk.disk(b, 0));
            disk.format(n);
            refusedAll("no block", NoSuchElementException.class, new int[] {LEAST, -1, n, n + 1, MOST}, b -> disk.disk(b, 0));
            refusedAll("no byte", IndexOutOfBoundsException.class, new int[] {LEAST, -1, 256, MOST}, at -> disk.disk(0, at));
            refusedAll("neither", NoSuchElementException.class, new int[] {-1, n}, b -> disk.disk(b, 256));
            Bench.same("the last byte", disk.disk(n - 1, 255), 0);
            disk.flip(n - 1, 255, 200, 0);
            disk.flip(0, 0, disk.disk(0, 0) ^ 129, 0);
            Bench.same("the last byte", disk.disk(n - 1, 255), 200);
            Bench.same("the first byte", disk.disk(0, 0), 129);
            disk.format(72);
            refusedAll("another disk", NoSuchElementException.class, new int[] {72, 1023}, b -> disk.disk(b, 0));
        }
        Bench bench = withFile();
        bench.write("f", "new", 0);
        Bench.same("what is fresh is not on the disk", bench.disk.disk(0, 0) + bench.disk.disk(1, 0),
            withFile().disk.disk(0, 0) + withFile().disk.disk(1, 0));
    }

    private static void flipNow() {
        Bench.says("Promise 19", "It is exclusive-or'ed with the low 8 bits of with: what it is then. when 0: at once");
        LyingDisk disk = withFile().disk;
        int[] with = {0, 1, 255, 256, 257, -1, LEAST, MOST, -256};
        int[] due = {0, 1, 254, 254, 255, 0, 0, 255, 255};
        for (int i = 0; i < with.length; i++) {
            Bench.same("flip with " + with[i], disk.flip(63, 255, with[i], 0), due[i]);
            Bench.same("disk", disk.disk(63, 255), due[i]);
        }
        Bench.same("its neighbour", disk.disk(63, 254), 0);
        Bench.same("none is planned", disk.count(10), 0);
        Bench.same("the first byte of all", disk.flip(0, 0, disk.disk(0, 0), 0), 0);
    }

    private static void flipArguments() {
        Bench.says("Promise 19", "NoSuchElementException: no such block. IndexOutOfBoundsException: at is not 0 .. 255. "
            + "IllegalArgumentException: when is below 0");
        LyingDisk disk = new LyingDisk();
        refusedAll("no disk", NoSuchElementException.class, new int[] {-1, 0}, b -> disk.flip(b, 0, 0, 0));
        disk.format(64);
        refusedAll("no block", NoSuchElementException.class, new int[] {LEAST, -1, 64, MOST}, b -> disk.flip(b, 0, 1, 0));
        refusedAll("no byte", IndexOutOfBoundsException.class, new int[] {LEAST, -1, 256, MOST}, a -> disk.flip(0, a, 1, 0));
        refusedAll("below 0", IllegalArgumentException.class, new int[] {LEAST, -1}, w -> disk.flip(0, 0, 1, w));
        refusedAll("no block, no byte", NoSuchElementException.class, new int[] {-1, 64}, b -> disk.flip(b, 256, 1, -1));
        refusedAll("no byte, below 0", IndexOutOfBoundsException.class, new int[] {-1, 256}, a -> disk.flip(0, a, 1, -1));
        Bench.same("nothing was altered", disk.disk(0, 0), 144);
        Bench.same("nothing is planned", disk.count(10), 0);
        Bench.same("the last block and byte", disk.flip(63, 255, 1, 1), 1);
    }

    private static void flipPlanned() {
        Bench.says("Promise 19", "else before the when-th ACCESS from now on ... : how many flips are planned, with this one");
        LyingDisk disk = withFile().disk;
        Bench.same("first", disk.flip(63, 0, 1, 1), 1);
        Bench.same("second", disk.flip(63, 0, 2, 2), 2);
        Bench.same("third", disk.flip(63, 0, 4, 3), 3);
        Bench.same("fourth", disk.flip(63, 0, 0x108, 1), 4);
        Bench.same("fifth", disk.flip(63, 1, 1, MOST), 5);
        Bench.same("not yet", disk.disk(63, 0), 0);
        int[] due = {9, 11, 15, 15};
        int[] planned = {3, 2, 1, 1};
        for (int i = 0; i < 4; i++) {
            disk.mount(2);
            Bench.same("access " + (i + 1), disk.disk(63, 0), due[i]);
            Bench.same("planned", disk.count(10), planned[i]);
        }
        Bench.same("from now on", disk.flip(63, 0, 16, 2), 2);
        disk.mount(2);
        Bench.same("not yet", disk.disk(63, 0), 15);
        disk.mount(2);
        Bench.same("now", disk.disk(63, 0), 31);
        Bench.same("the very last is never reached", disk.disk(63, 1), 0);
        LyingDisk places = withFile().disk;
        for (int i = 0; i < 4; i++) {
            places.flip(60 + i, 100 + i, 1 + i, 1 + i);
        }
        for (int access = 1; access <= 4; access++) {
            places.mount(2);
            for (int i = 0; i < 4; i++) {
                Bench.same("access " + access + ", flip " + i, places.disk(60 + i, 100 + i), i < access ? 1 + i : 0);
            }
        }
    }

    private static void flipStopped() {
        Bench.says("Promise 19", "also if that is not made: one that POWER stops counts for what is planned, "
            + "not among the ACCESSES");
        LyingDisk disk = withFile().disk;
        int accesses = disk.count(2);
        disk.flip(63, 0, 1, 1);
        disk.flip(63, 0, 2, 2);
        disk.flip(63, 0, 4, 3);
        disk.power(2);
        disk.mount(2);
        Bench.same("mount", disk.mount(2), -2);
        Bench.same("the second is done", disk.disk(63, 0), 3);
        Bench.same("planned", disk.count(10), 1);
        Bench.same("one access", disk.count(2), accesses + 1);
        disk.mount(2);
        Bench.same("the third", disk.disk(63, 0), 7);
        Bench.same("two accesses", disk.count(2), accesses + 2);
    }

    private static void flipSixtyFour() {
        Bench.says("Promise 19", "IllegalStateException: 64 are planned");
        LyingDisk disk = withFile().disk;
        for (int i = 1; i <= 64; i++) {
            Bench.same("planned", disk.flip(63, i, 1, i < 3 ? i : MOST), i);
        }
        Bench.refused("the 65th", IllegalStateException.class, () -> disk.flip(63, 0, 1, 1));
        Bench.refused("the 65th", IllegalStateException.class, () -> disk.flip(63, 0, 1, MOST));
        Bench.refused("at once", IllegalStateException.class, () -> disk.flip(63, 0, 1, 0));
        Bench.same("64 are planned", disk.count(10), 64);
        Bench.same("nothing was altered", disk.disk(63, 0), 0);
        disk.mount(2);
        Bench.same("63 are planned", disk.count(10), 63);
        Bench.same("at once", disk.flip(63, 0, 1, 0), 1);
        Bench.same("the 64th", disk.flip(63, 0, 1, 5), 64);
        Bench.refused("the 65th", IllegalStateException.class, () -> disk.flip(63, 0, 1, 5));
        disk.format(64);
        Bench.same("format drops them", disk.flip(63, 0, 1, 5), 1);
    }

    private static void copy() {
        Bench.says("Promise 20", "The block becomes as another one is. NoSuchElementException: no such block");
        LyingDisk none = new LyingDisk();
        refusedAll("no disk", NoSuchElementException.class, new int[] {-1, 0}, b -> none.copy(b, 0));
        LyingDisk disk = withFile().disk;
        refusedAll("no block", NoSuchElementException.class, new int[] {LEAST, -1, 64, MOST}, b -> disk.copy(b, 0));
        refusedAll("no other", NoSuchElementException.class, new int[] {LEAST, -1, 64, MOST}, b -> disk.copy(0, b));
        disk.flip(0, 0, disk.disk(0, 0) ^ 11, 0);
        disk.flip(0, 255, disk.disk(0, 255) ^ 22, 0);
        disk.copy(63, 0);
        Bench.same("its first byte", disk.disk(63, 0), 11);
        Bench.same("its last byte", disk.disk(63, 255), 22);
        disk.flip(0, 0, 1, 0);
        Bench.same("it is another block", disk.disk(63, 0), 11);
        disk.copy(63, 63);
        Bench.same("onto itself", disk.disk(63, 255), 22);
        disk.copy(0, 62);
        Bench.same("an empty one", disk.disk(0, 0) + disk.disk(0, 255), 0);
        int root = disk.count(9);
        disk.copy(61, root);
        Bench.same("mount", disk.mount(2), 2);
        disk.copy(root, 61);
        Bench.same("as it was", disk.mount(2), 2);
        disk.copy(root, 60);
        Bench.same("altered", disk.mount(2), -1);
    }

    private static void imageWithout() {
        Bench.says("Promise 21", "IllegalStateException: there is no DISK, or (back) none was kept");
        LyingDisk disk = new LyingDisk();
        Bench.refused("no disk", IllegalStateException.class, () -> disk.image(false));
        Bench.refused("no disk", IllegalStateException.class, () -> disk.image(true));
        disk.format(64);
        Bench.refused("none was kept", IllegalStateException.class, () -> disk.image(true));
        disk.format(64);
        Bench.refused("none was kept", IllegalStateException.class, () -> disk.image(true));
        disk.image(false);
        disk.image(true);
        disk.image(true);
        Bench.same("mount", disk.mount(2), 1);
    }

    private static void imageKept() {
        Bench.says("Promise 21", "The whole DISK is kept aside (back: false), or put back as it was kept");
        LyingDisk disk = withFile().disk;
        disk.flip(0, 0, disk.disk(0, 0) ^ 1, 0);
        disk.flip(63, 255, 2, 0);
        disk.image(false);
        for (int round = 0; round < 2; round++) {
            disk.flip(0, 0, 100, 0);
            disk.flip(63, 255, 100, 0);
            disk.image(true);
            Bench.same("the first byte", disk.disk(0, 0), 1);
            Bench.same("the last byte", disk.disk(63, 255), 2);
        }
        disk.flip(63, 255, 1, 0);
        disk.image(false);
        disk.flip(63, 255, 100, 0);
        disk.image(true);
        Bench.same("the one kept last", disk.disk(63, 255), 3);
        Bench bench = withFile();
        bench.disk.image(false);
        bench.write("f", "TEXT", 0);
        bench.disk.image(true);
        Bench.same("what is in memory stays", bench.content("f"), "TEXT");
        bench.disk.sync();
        bench.disk.image(true);
        Bench.same("the register is not on the disk", bench.disk.mount(8), -1);
    }

    private static void imageOfTheLargest() {
        Bench.says("Promise 21", "The whole DISK is kept aside (back: false), or put back as it was kept");
        LyingDisk disk = new LyingDisk();
        disk.format(1024);
        disk.flip(1023, 255, 7, 0);
        disk.image(false);
        disk.flip(1023, 255, 1, 0);
        disk.flip(0, 0, 1, 0);
        disk.image(true);
        Bench.same("the last byte", disk.disk(1023, 255), 7);
        Bench.same("the first byte", disk.disk(0, 0), 144);
        disk.format(64);
        disk.image(true);
        disk.format(1024);
        disk.image(true);
        Bench.same("the last byte", disk.disk(1023, 255), 7);
    }

    private static void imageOfAnotherSize() {
        Bench.says("Promise 21", "only what both have, if the size is another");
        LyingDisk disk = new LyingDisk();
        disk.format(128);
        disk.flip(71, 9, 1, 0);
        disk.flip(72, 9, 2, 0);
        disk.flip(127, 255, 3, 0);
        disk.image(false);
        disk.format(72);
        disk.image(true);
        Bench.same("the last of the lesser disk", disk.disk(71, 9), 1);
        Bench.same("N", disk.count(1), 72);
        Bench.refused("it has no more", NoSuchElementException.class, () -> disk.disk(72, 9));
        disk.format(136);
        disk.flip(128, 0, 4, 0);
        disk.image(true);
        Bench.same("what was kept is whole", disk.disk(72, 9), 2);
        Bench.same("what was kept is whole", disk.disk(127, 255), 3);
        Bench.same("behind it nothing changes", disk.disk(128, 0), 4);
        disk.format(64);
        disk.image(false);
        disk.format(72);
        disk.flip(63, 0, 5, 0);
        disk.flip(64, 0, 6, 0);
        disk.image(true);
        Bench.same("the last of the lesser one", disk.disk(63, 0), 0);
        Bench.same("behind it nothing changes", disk.disk(64, 0), 6);
    }

    private static void powerArgument() {
        Bench.says("Promise 22", "IllegalArgumentException: k is below 0");
        LyingDisk disk = withFile().disk;
        disk.power(2);
        refusedAll("power", IllegalArgumentException.class, new int[] {LEAST, -1}, disk::power);
        Bench.same("the first access", disk.mount(2), 2);
        Bench.same("what throws leaves the plan", disk.mount(2), -2);
        disk.power(MOST);
        Bench.same("far away", disk.mount(2), 2);
        Bench.same("power is no flip", disk.count(10), 0);
    }

    private static void powerOnce() {
        Bench.says("Promise 22", "POWER fails before the k-th ACCESS from now on, once; 0: it does not");
        for (int k = 1; k <= 4; k++) {
            LyingDisk disk = withFile().disk;
            disk.power(k);
            for (int access = 1; access <= 5; access++) {
                Bench.same("power(" + k + "), access " + access, disk.mount(2), access == k ? -2 : 2);
            }
        }
        LyingDisk disk = withFile().disk;
        disk.power(1);
        disk.power(0);
        Bench.same("it does not", disk.mount(2), 2);
        disk.power(0);
        Bench.same("it does not", disk.mount(2), 2);
    }

    private static void powerReplaced() {
        Bench.says("Promise 22", "A later call takes the place of an earlier one");
        LyingDisk disk = withFile().disk;
        disk.power(1);
        disk.power(2);
        Bench.same("the first", disk.mount(2), 2);
        Bench.same("the second", disk.mount(2), -2);
        Bench.same("the third", disk.mount(2), 2);
        disk.power(3);
        disk.mount(2);
        disk.power(2);
        Bench.same("from now on", disk.mount(2), 2);
        Bench.same("the second", disk.mount(2), -2);
        Bench.same("and once", disk.mount(2), 2);
    }

    private static void countOthers() {
        Bench.says("Promise 23", "Else -1");
        Bench bench = withFile();
        for (LyingDisk disk : new LyingDisk[] {new LyingDisk(), bench.disk}) {
            for (int what : new int[] {LEAST, -2, -1, 12, 13, 256, MOST}) {
                Bench.same("count(" + what + ")", disk.count(what), -1);
            }
        }
    }

    private static void countTape() {
        Bench.says("Promise 23", "0 the TAPE's length");
        LyingDisk disk = new LyingDisk();
        Bench.same("none", disk.count(0), 0);
        disk.feed(0, 0, 0, 0, 0);
        Bench.same("20", disk.count(0), 20);
        disk.end(7);
        Bench.same("7", disk.count(0), 7);
        disk.end(0);
        Bench.same("none", disk.count(0), 0);
        Bench.says("Promise 23", "11 the RESULT's length");
        Bench bench = withFile();
        Bench.same("none", bench.disk.count(11), 0);
        bench.read("f", 1, 2);
        Bench.same("2", bench.disk.count(11), 2);
        bench.list("");
        Bench.same("32", bench.disk.count(11), 32);
    }

    private static void countBlocksAndAccesses() {
        Bench.says("Promise 23", "1 N; 2 ACCESSES since the last format");
        LyingDisk disk = new LyingDisk();
        Bench.same("no disk", disk.count(1), 0);
        Bench.same("no disk", disk.count(2), 0);
        disk.format(1024);
        Bench.same("N", disk.count(1), 1024);
        disk.mount(2);
        disk.mount(2);
        Bench.same("accesses", disk.count(2), 7);
        disk.format(64);
        Bench.same("N", disk.count(1), 64);
        Bench.same("accesses", disk.count(2), 5);
        disk.power(1);
        disk.mount(2);
        Bench.same("one that was not made", disk.count(2), 5);
        disk.flip(3, 0, 1, 0);
        disk.mount(2);
        Bench.same("one that found the disk altered", disk.count(2), 6);
    }

    private static void checkCounts(String what, LyingDisk disk, int[] due) {
        for (int i = 0; i < due.length; i++) {
            Bench.same(what + ": count(" + (i + 3) + ")", disk.count(i + 3), due[i]);
        }
    }

    private static void countMounted() {
        Bench.says("Promise 23", "3 1 if MOUNTED, 4 if SEALED; 5 FREE, 6 FRESH blocks, 7 blocks in the CACHE, "
            + "8 COUNT's 31 low bits (MOUNTED, else 0); 9 ROOT's block in the REGISTER (-1 without DISK)");
        Bench bench = new Bench();
        checkCounts("no disk", bench.disk, new int[] {0, 0, 0, 0, 0, 0, -1});
        bench.disk.format(64);
        checkCounts("not mounted", bench.disk, new int[] {0, 0, 0, 0, 0, 0, 3});
        bench.disk.mount(2);
        checkCounts("mounted", bench.disk, new int[] {1, 0, 60, 0, 0, 1, 3});
        bench.make("f", 1);
        checkCounts("changed", bench.disk, new int[] {1, 0, 56, 4, 2, 1, 3});
        bench.disk.sync();
        checkCounts("committed", bench.disk, new int[] {1, 0, 59, 0, 2, 2, 8});
        bench.make("g", 1);
        bench.disk.off();
        checkCounts("off", bench.disk, new int[] {0, 0, 0, 0, 0, 0, 8});
        bench.disk.mount(2);
        checkCounts("mounted again", bench.disk, new int[] {1, 0, 59, 0, 0, 2, 8});
        bench.disk.power(1);
        bench.told("", 0);
        checkCounts("without power", bench.disk, new int[] {0, 0, 0, 0, 0, 0, 8});
    }

    private static void countSealed() {
        Bench.says("Promise 23", "3 1 if MOUNTED, 4 if SEALED");
        LyingDisk disk = withFile().disk;
        int root = disk.count(9);
        disk.flip(root, 0, 1, 0);
        checkCounts("altered, not yet seen", disk, new int[] {1, 0, 58, 0, 3, 2, root});
        disk.mount(2);
        checkCounts("sealed", disk, new int[] {0, 1, 0, 0, 0, 0, root});
        disk.off();
        disk.mount(2);
        checkCounts("for good", disk, new int[] {0, 1, 0, 0, 0, 0, root});
        disk.format(64);
        checkCounts("a new disk", disk, new int[] {0, 0, 0, 0, 0, 0, 3});
    }

    private static void countPlanned() {
        Bench.says("Promise 23", "10 planned flips (POWER is none)");
        LyingDisk disk = withFile().disk;
        disk.power(5);
        Bench.same("power", disk.count(10), 0);
        disk.flip(63, 0, 1, 0);
        Bench.same("at once", disk.count(10), 0);
        disk.flip(63, 0, 0, 1);
        disk.flip(63, 0, 1, 2);
        Bench.same("two", disk.count(10), 2);
        disk.mount(2);
        Bench.same("one", disk.count(10), 1);
        disk.off();
        Bench.same("off leaves it", disk.count(10), 1);
        disk.mount(2);
        Bench.same("none", disk.count(10), 0);
    }

    private static void register() {
        Bench.says("Promise 24", "Byte i, 0 .. 31, of the REGISTER's DIGEST. IndexOutOfBoundsException: another i. "
            + "IllegalStateException: there is no DISK");
        LyingDisk none = new LyingDisk();
        refusedAll("no disk", IllegalStateException.class, new int[] {0, 1, 31}, none::register);
        refusedAll("neither", IndexOutOfBoundsException.class, new int[] {LEAST, -1, 32, MOST}, none::register);
        byte[] digest = Model.Crypto.sha(Bench.block(HandsEdgesTest::withFile, 9));
        Bench bench = withFile();
        Bench.same("ROOT", bench.disk.count(9), 9);
        refusedAll("another", IndexOutOfBoundsException.class, new int[] {LEAST, -1, 32, MOST}, bench.disk::register);
        checkRegister("mounted", bench.disk, digest);
        bench.write("f", "new", 0);
        checkRegister("not yet committed", bench.disk, digest);
        bench.disk.off();
        bench.disk.flip(9, 0, 1, 0);
        checkRegister("altered", bench.disk, digest);
        bench.disk.mount(2);
        checkRegister("sealed", bench.disk, digest);
    }

    private static void checkRegister(String what, LyingDisk disk, byte[] digest) {
        for (int i = 0; i < 32; i++) {
            Bench.same(what + ": register(" + i + ")", disk.register(i), digest[i] & 255);
        }
    }
}
