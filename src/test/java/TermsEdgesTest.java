import java.util.Arrays;
import java.util.function.Supplier;

/** The edges that 'Terms' names: the TAPE, the KEY, blocks as they lie, PATHS, INODES, ENTRIES, heights. */
public final class TermsEdgesTest {
    private TermsEdgesTest() {
    }

    public static void main(String[] args) {
        tapeLeftEmpty();
        tapeLeftByWhatThrows();
        tapeLeftByTheOthers();
        keyIsZeroAtFirst();
        keyHasTwoHalves();
        accesses();
        plannedHappensBefore();
        registerIsWrittenWhole();
        digestIsOfAllBytes();
        numbersAbove255();
        inodeBytes();
        noneAndNodes();
        dataBlocksByDigits();
        inodesInTheTable();
        inodesInAll();
        rootAndMap();
        entriesAtMost();
        entryThatGoes();
        entryBytes();
        namesAndPaths();
        pathsOfSixteenNames();
        heights();
        Bench.finish("TermsEdgesTest");
    }

    /** A DISK with a FILE f and a DIRECTORY d, COMMITTED; nothing is in the CACHE. */
    private static Bench withBoth() {
        Bench bench = Bench.mounted(128, 8);
        bench.make("f", 1);
        bench.make("d", 2);
        bench.disk.sync();
        bench.disk.mount(8);
        return bench;
    }

    private static void tapeLeftEmpty() {
        Bench.says("Terms", "a call that takes the TAPE leaves it empty, whatever it answers, unless it throws");
        for (String name : Bench.PATH_CALLS) {
            Bench none = new Bench();
            Bench.same(name + " without a disk", none.call(name, "f"), -3);
            Bench.same(name + " without a disk: the tape", none.disk.count(0), 0);
            Bench sealed = withBoth();
            sealed.disk.flip(sealed.disk.count(9), 0, 1, 0);
            sealed.disk.mount(8);
            Bench.same(name + " sealed", sealed.call(name, "f"), -1);
            Bench.same(name + " sealed: the tape", sealed.disk.count(0), 0);
            Bench dark = withBoth();
            dark.disk.power(1);
            Bench.same(name + " without power", dark.call(name, "f"), -2);
            Bench.same(name + " without power: the tape", dark.disk.count(0), 0);
            Bench bench = withBoth();
            Bench.same(name + " of no path", bench.call(name, "/"), -4);
            Bench.same(name + " of no path: the tape", bench.disk.count(0), 0);
            Bench.same(name + " of what is not there", bench.call(name, "x/x"), -5);
            Bench.same(name + " of what is not there: the tape", bench.disk.count(0), 0);
            String fits = name.equals("make") ? "new" : name.equals("list") ? "d" : "f";
            Bench.holds(name + " that fits", bench.call(name, fits) >= 0);
            Bench.same(name + " that fits: the tape", bench.disk.count(0), 0);
        }
        Bench bench = new Bench();
        bench.tape(new byte[32]).disk.key();
        Bench.same("key: the tape", bench.disk.count(0), 0);
    }

    private static void tapeLeftByWhatThrows() {
        Bench.says("Terms", "leaves it empty, whatever it answers, unless it throws");
        Bench bench = withBoth();
        LyingDisk disk = bench.tape("f").disk;
        Runnable[] calls = {
            disk::key, () -> disk.end(-1), () -> disk.end(2), () -> disk.make(0), () -> disk.make(3),
            () -> disk.move(-1), () -> disk.move(2), () -> disk.write(-1, 0), () -> disk.write(2, 0),
            () -> disk.write(1, -1), () -> disk.size(-1), () -> disk.read(-1, 0), () -> disk.read(0, -1),
            () -> disk.read(0, 4097), () -> disk.told(-1), () -> disk.told(4), () -> disk.format(63),
            () -> disk.mount(1),
        };
        for (int i = 0; i < calls.length; i++) {
            Bench.refused("call " + i, IllegalArgumentException.class, calls[i]);
            Bench.same("call " + i + ": the tape", disk.count(0), 1);
        }
        Bench.same("it is what it was", disk.told(0), 1);
    }

    private static void tapeLeftByTheOthers() {
        Bench.says("Terms", "a call that takes the TAPE");
        Bench bench = withBoth();
        bench.list("");
        LyingDisk disk = bench.tape("f").disk;
        Runnable[] calls = {
            disk::sync, () -> disk.result(0), () -> disk.disk(0, 0), () -> disk.flip(99, 0, 1, 0),
            () -> disk.flip(99, 0, 1, 500), () -> disk.copy(99, 98), () -> disk.image(false),
            () -> disk.image(true), () -> disk.power(0), () -> disk.register(0), disk::off, () -> disk.mount(2),
        };
        for (int i = 0; i < calls.length; i++) {
            calls[i].run();
            Bench.same("call " + i + " does not take it", disk.count(0), 1);
        }
        Bench.same("it is what it was", disk.told(0), 1);
    }

    private static Bench formatted(byte[] key) {
        Bench bench = new Bench();
        if (key != null) {
            bench.tape(key).disk.key();
        }
        bench.disk.format(64);
        return bench;
    }

    private static void keyIsZeroAtFirst() {
        Bench.says("Terms", "KEY: 32 bytes, 0 at first");
        byte[] first = Bench.block(() -> formatted(null), 3);
        Bench.holds("a key of zeros", Arrays.equals(first, Bench.block(() -> formatted(new byte[32]), 3)));
        for (int i : new int[] {0, 15, 16, 31}) {
            byte[] key = new byte[32];
            key[i] = 1;
            Bench.holds("byte " + i, !Arrays.equals(first, Bench.block(() -> formatted(key), 3)));
        }
    }

    private static void keyHasTwoHalves() {
        Bench.says("Terms", "the first 16 bytes of KEY for the data, the others for the tweak");
        byte[] key = Bench.bytes("0123456789abcdefghijklmnopqrstuv");
        byte[] root = Model.Crypto.xts(false, key, 3, Bench.block(() -> formatted(key), 3));
        Bench.same("COUNT", Model.number4(root, 4), 1);
        for (int i = 44; i < 64; i++) {
            Bench.same("a zero of ROOT", root[i], 0);
        }
        Bench.same("the map: blocks 0 .. 3", root[64], (byte) 0xf0);
        for (int i = 65; i < 256; i++) {
            Bench.same("a zero of ROOT, to unit 15", root[i], 0);
        }
    }

    private static void accesses() {
        Bench.says("Terms", "the machine reads or writes a whole block, or writes the REGISTER; each counts");
        Bench bench = new Bench();
        Bench.same("before any disk", bench.disk.count(2), 0);
        Bench.same("3 of the table, ROOT, the register", bench.disk.format(64), 5);
        Bench.same("format's own count", bench.disk.count(2), 5);
        Bench.same("mount reads ROOT", bench.spent(() -> bench.disk.mount(4)), 1);
        Bench.same("sync of nothing", bench.spent(bench.disk::sync), 0);
        bench.disk.flip(60, 0, 1, 1);
        bench.disk.power(2);
        Runnable[] none = {
            () -> bench.disk.disk(3, 0), () -> bench.disk.flip(60, 0, 1, 0), () -> bench.disk.copy(60, 61),
            () -> bench.disk.image(false), () -> bench.disk.image(true), () -> bench.disk.register(0),
            () -> bench.told("/", 0), () -> bench.disk.feed(0, 0, 0, 0, 0), () -> bench.disk.end(0),
        };
        for (int i = 0; i < none.length; i++) {
            Bench.same("call " + i + " makes none", bench.spent(none[i]), 0);
        }
        Bench.same("none of them was one for what is planned", bench.disk.count(10), 1);
        bench.disk.power(0);
        Bench.same("told reads the table", bench.spent(() -> bench.told("", 0)), 3);
        Bench.same("make reads nothing more", bench.spent(() -> bench.make("a", 1)), 0);
        Bench.same("4 blocks, ROOT, the register", bench.spent(bench.disk::sync), 6);
    }

    private static void plannedHappensBefore() {
        Bench.says("Terms", "before each what is planned for it happens");
        Bench bench = Bench.mounted(64, 4);
        bench.disk.flip(3, 9, 1, 1);
        Bench.same("the very read sees it", bench.disk.mount(4), -1);
        for (int when = 1; when <= 7; when++) {
            Bench written = Bench.mounted(64, 4);
            written.make("a", 1);
            // The ENTRY's block 7 is written first, ROOT's block 8 fifth, the REGISTER sixth.
            written.disk.flip(7, 0, 1, when);
            written.disk.flip(60, 0, 1, when);
            written.disk.sync();
            Bench.same("flip " + when + ": when the register is written, too", written.disk.disk(60, 0), when < 7 ? 1 : 0);
            written.disk.mount(4);
            Bench.same("flip " + when + ": only that write comes behind it", written.list(""), when == 1 ? 1 : -1);
        }
        for (int at = 0; at < 256; at += 15) {
            Bench root = Bench.mounted(64, 4);
            root.make("a", 1);
            root.disk.flip(8, at, 1, 6);
            Bench.same("sync", root.disk.sync(), 2);
            Bench.same("ROOT altered before the register is written", root.disk.mount(4), -1);
        }
    }

    private static String digestIn(LyingDisk disk) {
        StringBuilder text = new StringBuilder();
        for (int i = 0; i < 32; i++) {
            text.append(disk.register(i)).append(' ');
        }
        return text.toString();
    }

    private static void registerIsWrittenWhole() {
        Bench.says("Terms", "It is written whole");
        for (int stop = 5; stop <= 7; stop++) {
            Bench bench = Bench.mounted(64, 4);
            bench.make("a", 1);
            String before = digestIn(bench.disk);
            bench.disk.power(stop);
            Bench.same("power(" + stop + ")", bench.disk.sync(), stop < 7 ? -2 : 2);
            Bench.same("ROOT's block", bench.disk.count(9), stop < 7 ? 3 : 8);
            Bench.holds("its digest", digestIn(bench.disk).equals(before) == stop < 7);
            bench.disk.power(0);
            Bench.same("COUNT", bench.disk.mount(4), stop < 7 ? 1 : 2);
        }
    }

    private static void digestIsOfAllBytes() {
        Bench.says("Terms", "SHA-256 (FIPS 180-4) of the 256 bytes as they are on the DISK");
        byte[] digest = Model.Crypto.sha(Bench.block(() -> formatted(null), 3));
        LyingDisk formatted = formatted(null).disk;
        for (int i = 0; i < 32; i++) {
            Bench.same("byte " + i, formatted.register(i), digest[i] & 255);
        }
        for (int at : new int[] {0, 15, 16, 127, 128, 240, 255}) {
            Bench bench = formatted(null);
            bench.disk.flip(3, at, 256, 0);
            Bench.same("byte " + at + " as it was", bench.disk.mount(2), 1);
            bench.disk.flip(3, at, 1, 0);
            Bench.same("byte " + at + " with another bit", bench.disk.mount(2), -1);
        }
    }

    /** A FILE of 65,536 bytes, 256 DATA blocks: its later ones and its NODES have numbers above 255. */
    private static Bench withLargeFile() {
        Bench bench = Bench.mounted(1024, 8);
        bench.make("a", 1);
        for (int i = 0; i < 128; i++) {
            // 1 byte of PATH; the 19 others lie in DATA blocks 2 i and 2 i + 1.
            bench.disk.feed(0x61000000 + i, 1, 2, 3, 4);
            bench.disk.write(1, 512 * i + 246);
        }
        bench.size("a", 65536);
        bench.disk.sync();
        return bench;
    }

    private static byte[] deciphered(Supplier<Bench> run, int number, byte[] digest) {
        byte[] raw = Bench.block(run, number);
        Bench.holds("the digest of block " + number, Arrays.equals(Model.Crypto.sha(raw), digest));
        return Model.Crypto.xts(false, new byte[32], number, raw);
    }

    private static byte[] named(Supplier<Bench> run, byte[] by, int at) {
        return deciphered(run, Model.number4(by, at), Arrays.copyOfRange(by, at + 4, at + 36));
    }

    private static byte[] rootOf(Supplier<Bench> run) {
        Bench bench = run.get();
        byte[] digest = new byte[32];
        for (int i = 0; i < 32; i++) {
            digest[i] = (byte) bench.disk.register(i);
        }
        return deciphered(run, bench.disk.count(9), digest);
    }

    /** The TABLE's first DATA block: INODES 0 to 3. */
    private static byte[] inodesOf(Supplier<Bench> run) {
        return named(run, named(run, named(run, rootOf(run), 8), 0), 0);
    }

    private static void numbersAbove255() {
        Bench.says("Terms", "Numbers in blocks have their highest byte first");
        Supplier<Bench> run = TermsEdgesTest::withLargeFile;
        byte[] inodes = inodesOf(run);
        Bench.same("sort", inodes[64], 1);
        Bench.same("height", inodes[65], 3);
        Bench.same("size", Arrays.toString(Arrays.copyOfRange(inodes, 68, 72)), "[0, 1, 0, 0]");
        // 255 is 5 1 3 to the base 7.
        byte[] node = named(run, named(run, named(run, inodes, 72), 36 * 5), 36);
        Bench.says("Terms", "the tweak, which is the block's number, 16 bytes, the lowest first");
        Bench.holds("its number is above 255", Model.number4(node, 36 * 3) > 255);
        byte[] data = named(run, node, 36 * 3);
        Bench.same("its first bytes", Arrays.toString(Arrays.copyOf(data, 10)), "[2, 0, 0, 0, 3, 0, 0, 0, 4, 0]");
        byte[] before = named(run, node, 36 * 2);
        Bench.same("the last bytes before", Arrays.toString(Arrays.copyOfRange(before, 245, 256)),
            "[0, 0, 0, 127, 0, 0, 0, 1, 0, 0, 0]");
    }

    private static Bench withSparseFile() {
        Bench bench = Bench.mounted(64, 8);
        bench.make("a", 1);
        bench.size("a", 1792);
        bench.write("a", "x", 1791);
        bench.make("b", 1);
        bench.disk.sync();
        return bench;
    }

    /** A FILE a with a NODE and two DATA blocks where there were five, b that is empty again. */
    private static Bench withWornMemory() {
        Bench bench = Bench.mounted(64, 8);
        bench.make("a", 1);
        bench.make("b", 1);
        bench.write("b", Bench.pattern(256), 0);
        bench.size("b", 0);
        bench.write("a", Bench.pattern(1200), 0);
        bench.write("b", "x", 0);
        bench.disk.sync();
        bench.size("a", 512);
        bench.size("b", 0);
        bench.write("a", "x", 300);
        bench.disk.sync();
        return bench;
    }

    private static void checkNone(byte[] bytes, int at) {
        byte[] none = new byte[36];
        Arrays.fill(none, 0, 4, (byte) 255);
        Bench.holds("NONE at " + at, Arrays.equals(Arrays.copyOfRange(bytes, at, at + 36), none));
    }

    private static void inodeBytes() {
        Bench.says("Terms", "INODE, 64 bytes: sort (0 free, 1 FILE, 2 DIRECTORY), height, 2 zeros, size (4), TREE (36), 20 zeros");
        Supplier<Bench> run = () -> {
            Bench bench = Bench.mounted(64, 8);
            bench.make("f", 1);
            bench.make("d", 2);
            bench.make("gone", 1);
            bench.write("f", Bench.pattern(259), 0);
            bench.write("gone", Bench.pattern(300), 0);
            bench.disk.sync();
            bench.remove("gone");
            bench.disk.sync();
            return bench;
        };
        byte[] inodes = inodesOf(run);
        int[][] starts = {{2, 0, 0, 0, 0, 0, 0, 64}, {1, 1, 0, 0, 0, 0, 1, 3}, {2, 0, 0, 0, 0, 0, 0, 0}};
        for (int number = 0; number < 3; number++) {
            for (int i = 0; i < 8; i++) {
                Bench.same("byte " + i + " of inode " + number, inodes[64 * number + i], starts[number][i]);
            }
            for (int i = 44; i < 64; i++) {
                Bench.same("byte " + i + " of inode " + number, inodes[64 * number + i], 0);
            }
        }
        checkNone(inodes, 128 + 8);
        Bench.says("Promise 9", "then its INODE becomes all zeros");
        for (int i = 0; i < 64; i++) {
            Bench.same("byte " + i, inodes[192 + i], 0);
        }
    }

    private static void noneAndNodes() {
        Bench.says("Terms", "NONE: number 2^32 - 1, 32 zeros");
        Supplier<Bench> run = TermsEdgesTest::withSparseFile;
        byte[] inodes = inodesOf(run);
        checkNone(inodes, 128 + 8);
        byte[] node = named(run, inodes, 64 + 8);
        for (int tree = 0; tree < 6; tree++) {
            checkNone(node, 36 * tree);
        }
        Bench.says("Terms", "7 TREES of height h - 1, 4 zeros");
        Bench.same("the 4 zeros", Model.number4(node, 252), 0);
        Bench.same("the last byte of the last tree", named(run, node, 36 * 6)[255], 'x');
        Supplier<Bench> worn = TermsEdgesTest::withWornMemory;
        node = named(worn, inodesOf(worn), 64 + 8);
        Bench.same("the 4 zeros of a node where other bytes were", Model.number4(node, 252), 0);
        Bench.says("Terms", "its POINTER becomes NONE");
        for (int tree = 2; tree < 7; tree++) {
            checkNone(node, 36 * tree);
        }
        checkNone(inodesOf(worn), 128 + 8);
        Bench.says("Terms", "NONE: 256 zeros");
        Bench bench = withSparseFile();
        Bench.same("read", bench.read("a", 1536 - 100, 100), 100);
        Bench.same("zeros", bench.result(), "\0".repeat(100));
    }

    private static void dataBlocksByDigits() {
        Bench.says("Terms", "by the digits of i to the base 7, h of them, the highest first");
        int[][] blocks = {{0, 6}, {0, 6, 7, 13, 14, 48}, {0, 6, 7, 48, 49, 255}};
        int[][] taken = {{2, 1}, {3, 1, 2, 1, 2, 2}, {4, 1, 2, 2, 3, 3}};
        int[] sizes = {1792, 12544, 65536};
        for (int h = 1; h <= 3; h++) {
            Bench bench = Bench.mounted(1024, 8);
            bench.make("a", 1);
            bench.size("a", sizes[h - 1]);
            for (int i = 0; i < blocks[h - 1].length; i++) {
                int fresh = bench.disk.count(6);
                int block = blocks[h - 1][i];
                bench.write("a", "" + (char) ('A' + i), 256 * block);
                Bench.same("height " + h + ", block " + block, bench.disk.count(6) - fresh, taken[h - 1][i]);
            }
            bench.disk.sync();
            bench.disk.mount(2);
            for (int i = 0; i < blocks[h - 1].length; i++) {
                bench.read("a", 256 * blocks[h - 1][i], 1);
                Bench.same("height " + h + ", block " + blocks[h - 1][i], bench.disk.result(0), 'A' + i);
            }
        }
    }

    private static int needed(int blocks) {
        return blocks < 2 ? blocks : blocks + (blocks + 6) / 7 + (blocks > 7 ? 1 : 0);
    }

    private static void inodesInTheTable() {
        Bench.says("Terms", "The TABLE: a TREE of height 2, four INODES in a DATA block");
        Bench bench = Bench.mounted(128, 8);
        for (int number = 1; number <= 29; number++) {
            bench.make("f" + number, 1);
            int tableBlocks = (number + 4) / 4;
            int due = 1 + (tableBlocks + 6) / 7 + tableBlocks + needed((number + 7) / 8);
            Bench.same("fresh with inode " + number, bench.disk.count(6), due);
        }
    }

    private static void inodesInAll() {
        Bench.says("Terms", "128 in all; INODE 0 is the top DIRECTORY");
        Bench bench = Bench.mounted(256, 8);
        Bench.same("the top", bench.told("", 2), 0);
        Bench.same("the top", bench.told("", 0), 2);
        bench.make("d", 2);
        for (int number = 2; number <= 127; number++) {
            String name = "" + (char) (100 + number);
            Bench.same("make", bench.make(number % 2 == 0 ? name : "d/" + name, 1), number);
        }
        Bench.same("entries", bench.list(""), 64);
        Bench.same("entries", bench.list("d"), 63);
        Bench.same("there is room for an entry, but no inode", bench.make("d/x", 1), -10);
        Bench.same("the last one goes", bench.remove("d/" + (char) (100 + 127)), 127);
        Bench.same("the last one comes", bench.make("d/x", 1), 127);
    }

    private static Bench withWornRoot() {
        Bench bench = Bench.mounted(64, 8);
        bench.make("a", 1);
        bench.write("a", Bench.pattern(256), 0);
        bench.size("a", 0);
        bench.disk.sync();
        return bench;
    }

    private static void rootAndMap() {
        Bench.says("Terms", "MAP: N bits from the highest of each byte on, 1: the block is used (ROOT's, too), zeros");
        Supplier<Bench> run = TermsEdgesTest::withSparseFile;
        byte[] root = rootOf(run);
        // 0 .. 3 were given up; the TABLE 4 5 6, the ENTRIES 7, the NODE 8, its DATA block 9, ROOT 10.
        Bench.same("ROOT", run.get().disk.count(9), 10);
        Bench.same("blocks 0 .. 7", root[64], 0x0f);
        Bench.same("blocks 8 .. 15", root[65] & 255, 0xe0);
        for (int i = 66; i < 256; i++) {
            Bench.same("zeros", root[i], 0);
        }
        Supplier<Bench> worn = TermsEdgesTest::withWornRoot;
        Bench.same("ROOT where other bytes were", worn.get().disk.count(9), 8);
        byte[] other = rootOf(worn);
        for (int i = 66; i < 256; i++) {
            Bench.same("zeros", other[i], 0);
        }
        Bench.says("Terms", "ROOT: COUNT (8), the TABLE (36), 20 zeros");
        for (int i = 44; i < 64; i++) {
            Bench.same("zeros", other[i], 0);
        }
        Bench.same("COUNT", Model.number4(root, 0), 0);
        Bench.same("COUNT", Model.number4(root, 4), 2);
        Bench.same("the table", Model.number4(root, 8), 4);
        for (int i = 44; i < 64; i++) {
            Bench.same("zeros", root[i], 0);
        }
    }

    private static void entriesAtMost() {
        Bench.says("Terms", "29 bytes, zeros behind the name; at most 64");
        Bench bench = Bench.mounted(128, 8);
        for (int i = 1; i <= 63; i++) {
            bench.make("f" + i, 1);
        }
        Bench.same("the 64th", bench.make("x", 1), 64);
        Bench.same("the 65th", bench.make("y", 1), -10);
        Bench.same("entries", bench.list(""), 64);
        Bench.same("size", bench.told("", 1), 2048);
        Bench.same("one goes", bench.remove("f1"), 1);
        Bench.same("one comes", bench.make("y", 1), 1);
        Bench.same("and no other", bench.make("z", 1), -10);
    }

    private static void entryThatGoes() {
        Bench.says("Terms", "One that goes is replaced by the last one, and the size becomes 32 less");
        String[] names = {"a", "b", "c"};
        String[] due = {"c=3 b=2", "a=1 c=3", "a=1 b=2"};
        for (int i = 0; i < 3; i++) {
            Bench bench = Bench.mounted(64, 4);
            bench.make("a", 1);
            bench.make("b", 1);
            bench.make("c", 1);
            bench.remove(names[i]);
            Bench.same("without " + names[i], bench.names(""), due[i]);
            Bench.same("size", bench.told("", 1), 64);
        }
        Bench bench = Bench.mounted(64, 4);
        for (int i = 1; i <= 9; i++) {
            bench.make("" + i, 1);
        }
        Bench.same("9 entries need two blocks", bench.told("", 3), 1);
        bench.remove("1");
        Bench.same("the 9th comes from the second block", bench.names(""), "9=9 2=2 3=3 4=4 5=5 6=6 7=7 8=8");
        Bench.same("8 entries need one", bench.told("", 3), 0);
        Bench one = Bench.mounted(64, 4);
        one.make("a", 1);
        one.remove("a");
        Bench.same("the only one", one.told("", 1), 0);
    }

    private static void entryBytes() {
        Bench.says("Terms", "INODE's number (2), length of the name, 29 bytes, zeros behind the name");
        Bench bench = Bench.mounted(64, 4);
        String longest = "123456789.123456789.123456789";
        bench.make(longest, 1);
        bench.make("b", 1);
        bench.list("");
        Bench.same("29 bytes, and 1", bench.result(), "\0\1\35" + longest + "\0\2\1b" + "\0".repeat(28));
        bench.remove(longest);
        bench.make("c", 1);
        bench.list("");
        Bench.same("nothing is left of a longer name", bench.result(),
            "\0\2\1b" + "\0".repeat(28) + "\0\1\1c" + "\0".repeat(28));
        bench.tape("defghijklmnopqrst").disk.end(1);
        bench.disk.make(1);
        bench.tape("defghijklmnopqrst").disk.end(2);
        bench.disk.move(1);
        bench.list("");
        Bench.same("nothing comes of what was cut off", bench.result(64, 96), "\0\3\1e" + "\0".repeat(28));
    }

    private static void namesAndPaths() {
        Bench.says("Terms", "PATH: NAMES of 1 to 29 bytes (none 0 or 47) with a 47 between two of them");
        Bench bench = Bench.mounted(128, 4);
        String longest = "n".repeat(29);
        Bench.same("a directory", bench.make("d", 2), 1);
        Bench.same("1 byte", bench.make("d/x", 1), 2);
        Bench.same("29 bytes", bench.make(longest, 1), 3);
        Bench.same("29 bytes behind another name", bench.make("d/" + longest, 1), 4);
        Bench.same("28 of them are another name", bench.told(longest.substring(1), 2), -5);
        String[] wrong = {"/", "//", "/d", "d/", "d//x", "n" + longest, "d/n" + longest, "\0", "d\0", "d/\0", "\0d",
            longest + "n/x", "d/x/", "n".repeat(300)};
        for (String path : wrong) {
            Bench other = withBoth();
            for (String name : Bench.PATH_CALLS) {
                Bench.same(name + " of '" + path.replace('\0', '0') + "'", other.call(name, path), -4);
            }
        }
        int number = 5;
        for (char c : new char[] {1, 46, 48, 127, 128, 255}) {
            Bench.same("a name of " + (int) c, bench.make("" + c, 1), number);
            Bench.same("a name of " + (int) c, bench.told("" + c, 2), number);
            number++;
        }
        Bench.says("Terms", "empty: the top");
        Bench.same("the empty path", bench.told("", 2), 0);
        Bench.same("is not absent", bench.make("", 1), -6);
    }

    private static void pathsOfSixteenNames() {
        Bench.says("Terms", "with a 47 between two of them, at most 16");
        Bench bench = Bench.mounted(128, 4);
        String path = "d";
        for (int i = 1; i <= 15; i++) {
            bench.make(path, 2);
            path += "/d";
        }
        Bench.same("16 names", bench.make(path, 2), 16);
        Bench.same("16 names", bench.told(path, 2), 16);
        Bench.same("17 names", bench.told(path + "/d", 2), -4);
        Bench.same("17 names", bench.make(path + "/d", 2), -4);
        Bench.same("16 names and 17, in a move", bench.move(path, path + "/d"), -4);
        String longest = "l".repeat(29);
        String longPath = longest;
        for (int i = 2; i <= 16; i++) {
            longPath += "/" + longest;
        }
        Bench.same("16 names of 29 bytes", bench.told(longPath, 0), -5);
        Bench.same("and one more", bench.told(longPath + "/l", 0), -4);
    }

    private static void heights() {
        Bench.says("Terms", "A TREE's height is the least with which it has all blocks of its size "
            + "(0 for a size of 0, and 256 or less)");
        int[] sizes = {0, 1, 255, 256, 257, 1791, 1792, 1793, 12543, 12544, 12545, 65535, 65536};
        int[] due = {0, 0, 0, 0, 1, 1, 1, 2, 2, 2, 3, 3, 3};
        Bench up = Bench.mounted(1024, 4);
        up.make("a", 1);
        Bench jump = Bench.mounted(1024, 4);
        jump.make("a", 1);
        for (int i = 0; i < sizes.length; i++) {
            up.size("a", sizes[i]);
            Bench.same("up to " + sizes[i], up.told("a", 3), due[i]);
            jump.size("a", sizes[i]);
            Bench.same("at once to " + sizes[i], jump.told("a", 3), due[i]);
            jump.size("a", 0);
            Bench.same("and back", jump.told("a", 3), 0);
        }
        for (int i = sizes.length - 1; i >= 0; i--) {
            up.size("a", sizes[i]);
            Bench.same("down to " + sizes[i], up.told("a", 3), due[i]);
        }
        Bench entries = Bench.mounted(128, 4);
        int[] many = {8, 9, 56, 57};
        int[] high = {0, 1, 1, 2};
        int made = 0;
        for (int i = 0; i < 4; i++) {
            for (; made < many[i]; made++) {
                entries.make("f" + made, 1);
            }
            Bench.same(many[i] + " entries", entries.told("", 3), high[i]);
        }
    }
}
