import java.util.Arrays;
import java.util.LinkedHashMap;
import java.util.Map;
import java.util.function.Consumer;
import java.util.function.ToIntFunction;

/**
 * Blocks that are altered between two reads of one call, behind a DIGEST that is right both times (two different
 * blocks may have one). With a CACHE of 2 the TABLE's block is read while the PATH is followed, and once more when
 * its INODE is changed. Forge gives all blocks one DIGEST; the flips are planned by the face.
 */
public final class ReadTwiceEdgesTest {
    private static final int TABLE = 8;
    private static final int[] INODES_0_TO_3 = {TABLE, 0, 0};
    private static final int[] INODES_4_TO_7 = {TABLE, 0, 36};
    private static final int[] INODES_8_TO_11 = {TABLE, 0, 72};
    /** Where the INODES lie in their blocks. */
    private static final int TOP = 0;
    private static final int D = 64;
    private static final int X = 128;
    private static final int E = 192;
    private static final int Y = 0;
    private static final int G = 128;
    private static final int FREE = 64;

    /** What an INODE can become from one read to the next. */
    private static final Map<String, Consumer<byte[]>> OTHERS = new LinkedHashMap<>();

    private ReadTwiceEdgesTest() {
    }

    public static void main(String[] args) {
        if (Forge.of(new LyingDisk()) == null || !Forge.giveAllOneDigest(new LyingDisk())) {
            System.out.println("ReadTwiceEdgesTest: LyingDisk holds its state in another way; nothing was forged");
            return;
        }
        listOthers();
        allHaveOneDigest();
        nothingAltered();
        directoriesThatLoseAnEntry();
        directoriesThatGetAnEntry();
        filesThatGo();
        filesThatChange();
        freeOnes();
        everyByte();
        Bench.finish("ReadTwiceEdgesTest");
    }

    /** INODES: 1 d, 2 d/x, 3 e; 4 d/y, 5 d/z, 6 g, 7 g/u; 8 e/v; 9 to 11 are free, in a block that is there. */
    private static Bench withDirectories(boolean oneDigest) {
        Bench bench = new Bench();
        if (oneDigest) {
            Forge.giveAllOneDigest(bench.disk);
        }
        bench.disk.format(256);
        bench.disk.mount(8);
        for (String path : new String[] {"d", "d/x", "e", "d/y", "d/z", "g", "g/u", "e/v"}) {
            bench.make(path, path.length() == 1 ? 2 : 1);
        }
        bench.write("d/x", Bench.pattern(2000), 0);
        bench.write("d/y", Bench.pattern(300), 0);
        bench.disk.sync();
        bench.disk.mount(2);
        return bench;
    }

    private static Consumer<byte[]> size(int size) {
        return inode -> Forge.put4(inode, 4, size);
    }

    private static Consumer<byte[]> height(int height) {
        return inode -> inode[1] = (byte) height;
    }

    private static Consumer<byte[]> sort(int sort) {
        return inode -> inode[0] = (byte) sort;
    }

    private static Consumer<byte[]> tree(int number) {
        return inode -> Forge.put4(inode, 8, number);
    }

    private static void listOthers() {
        int[] sizes = {0, 1, 31, 32, 33, 64, 128, 256, 2048, 65536, 65537, 0x7fffffff, 0x80000000, -1, -32, -256, -288};
        for (int size : sizes) {
            OTHERS.put("size " + size, size(size));
        }
        for (int height : new int[] {1, 3, 4, 127, 128, 255}) {
            OTHERS.put("height " + height, height(height));
            OTHERS.put("height " + height + ", size 0", height(height).andThen(size(0)));
            OTHERS.put("height " + height + ", size -256", height(height).andThen(size(-256)));
            OTHERS.put("height " + height + ", size 65536", height(height).andThen(size(65536)));
        }
        for (int sort : new int[] {0, 1, 2, 3, 255}) {
            OTHERS.put("sort " + sort, sort(sort));
        }
        OTHERS.put("a byte behind the height", inode -> inode[3] ^= 1);
        OTHERS.put("a byte behind the TREE", inode -> inode[63] ^= 1);
        OTHERS.put("another DIGEST", inode -> inode[43] ^= 1);
        OTHERS.put("a TREE in no block", tree(0x7fffffff));
        OTHERS.put("free, with a TREE in a block that is FRESH then", sort(0).andThen(tree(0)));
        OTHERS.put("zeros", inode -> Arrays.fill(inode, (byte) 0));
    }

    private static boolean plan(Bench bench, Consumer<byte[]> change, int when, int... way) {
        Forge forge = Forge.of(bench.disk);
        int number = forge.numberAt(way);
        byte[] flips = forge.flipsFor(number, change);
        int planned = 0;
        for (int i = 0; i < 256; i++) {
            if (flips[i] != 0) {
                bench.disk.flip(number, i, flips[i], when);
                planned++;
            }
        }
        return planned > 0;
    }

    private static String answer(Bench bench, ToIntFunction<Bench> call) {
        try {
            return String.valueOf(call.applyAsInt(bench));
        } catch (RuntimeException e) {
            return "throws." + e.getClass().getSimpleName();
        }
    }

    /** The call's last ACCESS that reads the block: where DIGESTS differ, a flip before it is the last one noticed. */
    private static int lastRead(ToIntFunction<Bench> call, int... way) {
        int last = 0;
        for (int when = 1; when < 40; when++) {
            Bench bench = withDirectories(false);
            bench.disk.flip(Forge.of(bench.disk).numberAt(way), 255, 1, when);
            last = call.applyAsInt(bench) == -1 ? when : last;
        }
        return last;
    }

    /** What the call answers if the INODE becomes another one before that ACCESS, and whether that is for good. */
    private static String altered(ToIntFunction<Bench> call, int when, Consumer<byte[]> change, int inode, int... way) {
        Bench bench = withDirectories(true);
        boolean another = plan(bench, block -> {
            byte[] bytes = Arrays.copyOfRange(block, inode, inode + 64);
            change.accept(bytes);
            System.arraycopy(bytes, 0, block, inode, 64);
        }, when, way);
        if (!another) {
            return "as it was";
        }
        String answer = answer(bench, call);
        boolean tampered = answer.equals("-1");
        Bench.same("SEALED behind " + answer, bench.disk.count(4), tampered ? 1 : 0);
        Bench.same("MOUNTED behind " + answer, bench.disk.count(3), tampered ? 0 : 1);
        Bench.same("mount behind " + answer, bench.disk.mount(2), tampered ? -1 : 2);
        return answer;
    }

    /**
     * The INODE becomes another one before each of the ACCESSES from the one before its block is read last, which is
     * when it is changed; the first of all ACCESSES, too: then it is the same at all reads.
     */
    private static void alter(String what, ToIntFunction<Bench> call, int inode, int... way) {
        String due = answer(withDirectories(true), call);
        int last = lastRead(call, way);
        Bench.holds(what + " answers " + due, !due.startsWith("-"));
        Bench.holds(what + " reads the block last by access " + last, last > 3);
        for (Map.Entry<String, Consumer<byte[]>> other : OTHERS.entrySet()) {
            for (int when : new int[] {1, last - 1, last, last + 1}) {
                String got = altered(call, when, other.getValue(), inode, way);
                String at = what + ", before access " + (when - last) + " from there on " + other.getKey();
                Bench.says("LANGUAGE.md, rule 7", "No call may ever throw by itself");
                Bench.holds(at + ": " + got, !got.startsWith("throws"));
                Bench.says("What it is", "what is answered is either what the files hold or that the disk was tampered with");
                if (when >= last && !got.equals("as it was")) {
                    Bench.same(at, got, when == last ? "-1" : due);
                }
            }
        }
    }

    private static void allHaveOneDigest() {
        Bench.says("Forge", "all blocks have one DIGEST");
        Bench bench = withDirectories(true);
        bench.read("d/y", 0, 1);
        Bench.same("what was written", bench.result(), "" + (char) Bench.pattern(1)[0]);
        plan(bench, block -> block[0] = '!', 0, TABLE, 0, 36, Y + 8, 0);
        bench.read("d/y", 0, 1);
        Bench.same("what was altered", bench.result(), "!");
    }

    private static void nothingAltered() {
        Bench.says("Promise 10", "first the ENTRY goes in the old DIRECTORY, then it is the last in the new one");
        Bench bench = withDirectories(true);
        Bench.same("move in one directory", bench.move("d/x", "d/w"), 2);
        Bench.same("it is the last", bench.names("d"), "z=5 y=4 w=2");
        Bench.same("move to another one", bench.move("d/z", "e/z"), 5);
        Bench.same("the old one", bench.names("d"), "w=2 y=4");
        Bench.same("the new one", bench.names("e"), "v=8 z=5");
    }

    private static void directoriesThatLoseAnEntry() {
        alter("remove", b -> b.remove("d/y"), D, INODES_0_TO_3);
        alter("remove of the last entry", b -> b.remove("d/z"), D, INODES_0_TO_3);
        alter("remove of the only entry", b -> b.remove("g/u"), G, INODES_4_TO_7);
        alter("remove beside its directory", b -> b.remove("d/x"), D, INODES_0_TO_3);
        alter("move", b -> b.move("d/y", "g/w"), D, INODES_0_TO_3);
        alter("move of the only entry", b -> b.move("g/u", "d/w"), G, INODES_4_TO_7);
        alter("move in one directory", b -> b.move("d/y", "d/w"), D, INODES_0_TO_3);
    }

    private static void directoriesThatGetAnEntry() {
        alter("make", b -> b.make("d/n", 1), D, INODES_0_TO_3);
        alter("make beside", b -> b.make("g/n", 2), G, INODES_4_TO_7);
        alter("make in the top", b -> b.make("n", 1), TOP, INODES_0_TO_3);
        alter("move to", b -> b.move("d/y", "g/w"), G, INODES_4_TO_7);
        alter("move to a directory beside", b -> b.move("d/y", "e/w"), E, INODES_0_TO_3);
        alter("move to the top", b -> b.move("g/u", "w"), TOP, INODES_0_TO_3);
    }

    private static void filesThatGo() {
        alter("remove of a file", b -> b.remove("d/y"), Y, INODES_4_TO_7);
        alter("remove of a file beside its directory", b -> b.remove("d/x"), X, INODES_0_TO_3);
    }

    private static void filesThatChange() {
        alter("write", b -> b.write("d/x", "!", 0), X, INODES_0_TO_3);
        alter("write behind the end", b -> b.write("d/x", "!", 13000), X, INODES_0_TO_3);
        alter("size grows", b -> b.size("d/x", 13000), X, INODES_0_TO_3);
        alter("size shrinks", b -> b.size("d/x", 1), X, INODES_0_TO_3);
    }

    private static void everyByte() {
        ToIntFunction<Bench> call = b -> b.remove("d/y");
        int last = lastRead(call, INODES_0_TO_3);
        Bench.says("What it is", "what is answered is either what the files hold or that the disk was tampered with");
        for (int i = 0; i < 64; i++) {
            int at = i;
            Bench.same("byte " + i, altered(call, last, inode -> inode[at] ^= 1, D, INODES_0_TO_3), "-1");
        }
        // The other INODES of the block are not in hand.
        Bench.same("an INODE beside", altered(call, last, inode -> inode[63] ^= 1, E, INODES_0_TO_3), "4");
    }

    private static void freeOnes() {
        alter("make takes a free one", b -> b.make("d/n", 1), FREE, INODES_8_TO_11);
    }
}
