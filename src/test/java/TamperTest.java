import java.util.NoSuchElementException;

/** Promises 18 to 21: disk, flip, copy, image; and that what was altered is noticed, for good. */
public final class TamperTest {
    private TamperTest() {
    }

    public static void main(String[] args) {
        disk();
        flipAtOnce();
        flipPlanned();
        flipAndPower();
        flipRefused();
        flipBetweenWrites();
        copy();
        image();
        imageOfAnotherSize();
        everyBlockIsVouchedFor();
        memoryIsTrusted();
        sealedForGood();
        Bench.finish("TamperTest");
    }

    private static Bench withFiles() {
        Bench bench = Bench.mounted(64, 8);
        bench.make("d", 2);
        bench.make("d/f", 1);
        bench.write("d/f", Bench.pattern(600), 0);
        bench.disk.sync();
        return bench;
    }

    private static void disk() {
        Bench bench = Bench.mounted(64, 4);
        Bench.refused("disk(-1, 0)", NoSuchElementException.class, () -> bench.disk.disk(-1, 0));
        Bench.refused("disk(64, 0)", NoSuchElementException.class, () -> bench.disk.disk(64, 0));
        Bench.refused("disk(64, -1)", NoSuchElementException.class, () -> bench.disk.disk(64, -1));
        Bench.refused("disk(63, -1)", IndexOutOfBoundsException.class, () -> bench.disk.disk(63, -1));
        Bench.refused("disk(63, 256)", IndexOutOfBoundsException.class, () -> bench.disk.disk(63, 256));
        Bench.same("disk(63, 255)", bench.disk.disk(63, 255), 0);
        int accesses = bench.disk.count(2);
        Bench.same("disk(0, 0)", bench.disk.disk(0, 0), 144);
        Bench.same("it is no access", bench.disk.count(2), accesses);
        bench.make("a", 1);
        Bench.same("fresh blocks are not on the disk", bench.disk.disk(4, 0) | bench.disk.disk(4, 1), 0);
    }

    private static void flipAtOnce() {
        Bench bench = Bench.mounted(64, 4);
        Bench.same("flip", bench.disk.flip(60, 7, 0x1ff, 0), 255);
        Bench.same("flip", bench.disk.flip(60, 7, 0x0f, 0), 0xf0);
        Bench.same("flip with 0", bench.disk.flip(60, 7, 0x100, 0), 0xf0);
        Bench.same("disk", bench.disk.disk(60, 7), 0xf0);
        Bench.same("its neighbours", bench.disk.disk(60, 6) | bench.disk.disk(60, 8), 0);
        Bench.same("none is planned", bench.disk.count(10), 0);
    }

    private static void flipPlanned() {
        Bench bench = Bench.mounted(64, 4);
        Bench.same("planned", bench.disk.flip(60, 0, 1, 2), 1);
        Bench.same("planned", bench.disk.flip(60, 0, 2, 1), 2);
        Bench.same("planned", bench.disk.flip(60, 0, 4, 4), 3);
        Bench.same("planned", bench.disk.flip(60, 0, 8, Integer.MAX_VALUE), 4);
        Bench.same("not yet", bench.disk.disk(60, 0), 0);
        bench.disk.mount(4);
        Bench.same("before the first access", bench.disk.disk(60, 0), 2);
        Bench.same("planned", bench.disk.count(10), 3);
        Bench.same("told makes three", bench.told("", 0), 2);
        Bench.same("before the next ones", bench.disk.disk(60, 0), 7);
        Bench.same("planned", bench.disk.count(10), 1);
        bench.disk.flip(3, 0, 1, 2);
        Bench.same("not before this", bench.disk.mount(4), 1);
        Bench.same("but before this", bench.disk.mount(4), -1);
        Bench.same("planned ones stay planned", bench.disk.count(10), 1);
    }

    private static void flipAndPower() {
        Bench bench = Bench.mounted(64, 4);
        bench.disk.flip(60, 0, 1, 1);
        bench.disk.flip(60, 0, 2, 2);
        bench.disk.power(1);
        Bench.same("power fails", bench.disk.mount(4), -2);
        Bench.same("what is planned for that access happens", bench.disk.disk(60, 0), 1);
        bench.disk.mount(4);
        Bench.same("and that access counts for the others", bench.disk.disk(60, 0), 3);
    }

    private static void flipRefused() {
        Bench bench = Bench.mounted(64, 4);
        Bench.refused("flip(64, ..)", NoSuchElementException.class, () -> bench.disk.flip(64, 256, 0, -1));
        Bench.refused("flip(-1, ..)", NoSuchElementException.class, () -> bench.disk.flip(-1, 0, 0, 0));
        Bench.refused("flip(.., 256, ..)", IndexOutOfBoundsException.class, () -> bench.disk.flip(0, 256, 0, -1));
        Bench.refused("flip(.., -1, ..)", IndexOutOfBoundsException.class, () -> bench.disk.flip(0, -1, 0, 0));
        Bench.refused("flip(.., -1)", IllegalArgumentException.class, () -> bench.disk.flip(0, 0, 0, -1));
        for (int i = 1; i <= 64; i++) {
            Bench.same("planned", bench.disk.flip(60, i, 1, 1 + i % 2), i);
        }
        Bench.refused("the 65th", IllegalStateException.class, () -> bench.disk.flip(60, 0, 1, 1));
        Bench.refused("the 65th, at once", IllegalStateException.class, () -> bench.disk.flip(60, 0, 1, 0));
        Bench.refused("when comes first", IllegalArgumentException.class, () -> bench.disk.flip(60, 0, 1, -1));
        bench.disk.mount(4);
        Bench.same("half of them are done", bench.disk.count(10), 32);
        Bench.same("there is room again", bench.disk.flip(60, 0, 1, 1), 33);
    }

    /** The DIGEST is that of what was written, not of what is there when the POINTER is written. */
    private static void flipBetweenWrites() {
        for (int when = 1; when <= 6; when++) {
            Bench bench = Bench.mounted(64, 8);
            bench.make("a", 1);
            bench.told("a", 0);
            bench.disk.flip(7, 0, 1, when);
            Bench.same("sync", bench.disk.sync(), 2);
            bench.disk.mount(8);
            Bench.same("flip before write " + when, bench.list(""), when == 1 ? 1 : -1);
        }
        Bench bench = Bench.mounted(64, 8);
        bench.make("a", 1);
        bench.disk.flip(8, 0, 1, 6);
        Bench.same("sync", bench.disk.sync(), 2);
        Bench.same("ROOT altered before the register is written", bench.disk.mount(8), -1);
    }

    private static void copy() {
        Bench bench = withFiles();
        int root = bench.disk.count(9);
        bench.disk.copy(60, root);
        for (int at = 0; at < 256; at += 51) {
            Bench.same("copied", bench.disk.disk(60, at), bench.disk.disk(root, at));
        }
        bench.disk.copy(60, 60);
        bench.disk.copy(root, 60);
        Bench.same("the same bytes again", bench.disk.mount(8), 2);
        bench.disk.copy(root, 3);
        Bench.same("an old ROOT", bench.disk.mount(8), -1);
        Bench.refused("copy(64, 0)", NoSuchElementException.class, () -> bench.disk.copy(64, 0));
        Bench.refused("copy(0, 64)", NoSuchElementException.class, () -> bench.disk.copy(0, 64));
        Bench.refused("copy(-1, 0)", NoSuchElementException.class, () -> bench.disk.copy(-1, 0));
        Bench.refused("copy(0, -1)", NoSuchElementException.class, () -> bench.disk.copy(0, -1));
    }

    private static void image() {
        Bench bench = withFiles();
        Bench.refused("none was kept", IllegalStateException.class, () -> bench.disk.image(true));
        bench.disk.image(false);
        bench.disk.flip(60, 0, 9, 0);
        bench.disk.image(true);
        Bench.same("put back", bench.disk.disk(60, 0), 0);
        Bench.same("all is as it was", bench.disk.mount(8), 2);
        bench.write("d/f", "new", 0);
        bench.disk.sync();
        int root = bench.disk.count(9);
        bench.disk.image(true);
        Bench.same("the register is not on the disk", bench.disk.count(9), root);
        Bench.same("mount of the old disk", bench.disk.mount(8), -1);
        bench.disk.image(true);
        bench.disk.image(false);
    }

    private static void imageOfAnotherSize() {
        Bench bench = new Bench();
        bench.disk.format(128);
        bench.disk.flip(63, 5, 0x11, 0);
        bench.disk.flip(64, 5, 0x22, 0);
        bench.disk.image(false);
        bench.disk.format(64);
        bench.disk.image(true);
        Bench.same("what both have", bench.disk.disk(63, 5), 0x11);
        Bench.same("N", bench.disk.count(1), 64);
        bench.disk.format(256);
        bench.disk.flip(128, 5, 0x33, 0);
        bench.disk.image(true);
        Bench.same("what both have", bench.disk.disk(64, 5), 0x22);
        Bench.same("what the image has not", bench.disk.disk(128, 5), 0x33);
    }

    private static void everyBlockIsVouchedFor() {
        for (int block = 0; block < 20; block++) {
            Bench bench = withFiles();
            // 3 TABLE blocks, 2 DIRECTORY blocks, a NODE, 3 DATA blocks and ROOT: 4 .. 13.
            bench.disk.flip(block, 17 * (block % 15), 1 << block % 8, 0);
            boolean used = block >= 4 && block <= 13;
            int last = bench.disk.mount(2);
            last = last < 0 ? last : bench.read("d/f", 0, 4096);
            Bench.same("block " + block, last, used ? -1 : 600);
            Bench.same("block " + block + ": sealed", bench.disk.count(4), used ? 1 : 0);
        }
    }

    private static void memoryIsTrusted() {
        Bench bench = withFiles();
        bench.disk.mount(64);
        bench.read("d/f", 0, 4096);
        int accesses = bench.disk.count(2);
        for (int block = 4; block <= 12; block++) {
            bench.disk.flip(block, 0, 1, 0);
        }
        Bench.same("from the cache", bench.read("d/f", 0, 4096), 600);
        Bench.same("no access", bench.disk.count(2), accesses);
        Bench.same("changed from the cache", bench.write("d/f", "new", 0), 600);
        Bench.same("sync", bench.disk.sync(), 3);
        Bench.same("the other data blocks are altered", bench.disk.mount(64), 3);
        Bench.same("those that were written anew are not", bench.read("d/f", 0, 3), -1);
    }

    private static void sealedForGood() {
        Bench bench = withFiles();
        bench.read("d/f", 0, 4);
        bench.disk.mount(2);
        bench.disk.flip(4, 0, 1, 0);
        Bench.same("noticed", bench.told("d", 0), -1);
        bench.disk.flip(4, 0, 1, 0);
        Bench.same("mounted", bench.disk.count(3), 0);
        Bench.same("sealed", bench.disk.count(4), 1);
        int accesses = bench.disk.count(2);
        bench.disk.power(1);
        Bench.same("mount", bench.disk.mount(2), -1);
        Bench.same("make", bench.make("/", 1), -1);
        Bench.same("remove", bench.remove("d"), -1);
        Bench.same("move", bench.move("d", "/"), -1);
        Bench.same("write", bench.write("d/f", "", 0), -1);
        Bench.same("size", bench.size("d/f", 0), -1);
        Bench.same("read", bench.read("d/f", 0, 1), -1);
        Bench.same("list", bench.list(""), -1);
        Bench.same("told", bench.told("", 0), -1);
        Bench.same("sync", bench.disk.sync(), -1);
        bench.disk.off();
        Bench.same("mount", bench.disk.mount(2), -1);
        Bench.same("no access", bench.disk.count(2), accesses);
        Bench.same("the tape was taken", bench.disk.count(0), 0);
        Bench.refused("make(0)", IllegalArgumentException.class, () -> bench.disk.make(0));
        Bench.same("the result stays", bench.disk.count(11), 4);
        bench.disk.copy(60, 4);
        bench.disk.image(false);
        Bench.same("the others go on", bench.disk.flip(60, 0, 0, 0), bench.disk.disk(4, 0));
        Bench.same("ROOT's block", bench.disk.count(9), 13);
        Bench.same("format", bench.disk.format(64), 5);
        Bench.same("mount", bench.disk.mount(2), 1);
    }
}
