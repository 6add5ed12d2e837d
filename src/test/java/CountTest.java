/** Promises 23 and 24: count and register; and what counts as an ACCESS, with the CACHE and what is TAKEN. */
public final class CountTest {
    private CountTest() {
    }

    public static void main(String[] args) {
        count();
        register();
        accessesOfPaths();
        leastUsedLeavesTheCache();
        takenBlocksLeaveTheCache();
        takenNumbers();
        nodesTellWhatIsNone();
        directoriesAreReadUpToTheName();
        freeInodesAreLookedFor();
        Bench.finish("CountTest");
    }

    private static void count() {
        Bench bench = new Bench();
        for (int what : new int[] {-1, 12, 13, Integer.MIN_VALUE, Integer.MAX_VALUE}) {
            Bench.same("count(" + what + ")", bench.disk.count(what), -1);
        }
        bench.tape("abcde");
        Bench.same("the tape's length", bench.disk.count(0), 5);
        bench.disk.end(0);
        bench.disk.format(128);
        Bench.same("N", bench.disk.count(1), 128);
        Bench.same("accesses", bench.disk.count(2), 5);
        Bench.same("mounted", bench.disk.count(3), 0);
        Bench.same("sealed", bench.disk.count(4), 0);
        Bench.same("FREE, not mounted", bench.disk.count(5), 0);
        Bench.same("COUNT, not mounted", bench.disk.count(8), 0);
        Bench.same("ROOT's block", bench.disk.count(9), 3);
        bench.disk.mount(5);
        Bench.same("mounted", bench.disk.count(3), 1);
        Bench.same("FREE", bench.disk.count(5), 124);
        Bench.same("FRESH", bench.disk.count(6), 0);
        Bench.same("the cache", bench.disk.count(7), 0);
        Bench.same("COUNT", bench.disk.count(8), 1);
        bench.make("a", 1);
        bench.write("a", Bench.pattern(300), 0);
        Bench.same("FREE", bench.disk.count(5), 117);
        Bench.same("FRESH", bench.disk.count(6), 7);
        Bench.same("the cache", bench.disk.count(7), 3);
        Bench.same("COUNT is that of the last commit", bench.disk.count(8), 1);
        bench.disk.sync();
        Bench.same("FREE: what was used before is free", bench.disk.count(5), 120);
        Bench.same("FRESH", bench.disk.count(6), 0);
        Bench.same("the cache stays", bench.disk.count(7), 3);
        Bench.same("COUNT", bench.disk.count(8), 2);
        Bench.same("ROOT's block", bench.disk.count(9), 11);
        bench.read("a", 0, 4096);
        Bench.same("the cache is full", bench.disk.count(7), 5);
        Bench.same("the result's length", bench.disk.count(11), 300);
        bench.disk.flip(9, 9, 9, 9);
        Bench.same("planned flips", bench.disk.count(10), 1);
    }

    private static void register() {
        Bench bench = new Bench();
        Bench.refused("register(-1)", IndexOutOfBoundsException.class, () -> bench.disk.register(-1));
        Bench.refused("register(32)", IndexOutOfBoundsException.class, () -> bench.disk.register(32));
        Bench.refused("register(31)", IllegalStateException.class, () -> bench.disk.register(31));
        for (int commits = 1; commits <= 3; commits++) {
            int times = commits;
            Bench last = committedTimes(times);
            byte[] digest = Model.Crypto.sha(Bench.block(() -> committedTimes(times), last.disk.count(9)));
            for (int i = 0; i < 32; i++) {
                Bench.same("register(" + i + ")", last.disk.register(i), digest[i] & 255);
            }
            last.disk.flip(last.disk.count(9), 0, 1, 0);
            Bench.same("it is not on the disk", last.disk.register(0), digest[0] & 255);
        }
        bench.disk.format(64);
        Bench.refused("register(32)", IndexOutOfBoundsException.class, () -> bench.disk.register(32));
    }

    private static Bench committedTimes(int commits) {
        Bench bench = Bench.mounted(64, 2);
        for (int i = 2; i <= commits; i++) {
            bench.make("f" + i, 1);
            bench.disk.sync();
        }
        return bench;
    }

    /** A committed d/f, not yet read again; the cache is large. */
    private static Bench committed(int cache) {
        Bench bench = Bench.mounted(256, 8);
        bench.make("d", 2);
        bench.make("d/f", 1);
        bench.write("d/f", Bench.pattern(600), 0);
        bench.disk.sync();
        bench.disk.mount(cache);
        return bench;
    }

    private static int spent(Bench bench, Runnable call) {
        int before = bench.disk.count(2);
        call.run();
        return bench.disk.count(2) - before;
    }

    private static void accessesOfPaths() {
        Bench bench = committed(64);
        Bench.same("told of the top: the table", spent(bench, () -> bench.told("", 0)), 3);
        Bench.same("told of d: the top's entries", spent(bench, () -> bench.told("d", 0)), 1);
        Bench.same("again", spent(bench, () -> bench.told("d", 0)), 0);
        Bench.same("list of d", spent(bench, () -> bench.list("d")), 1);
        Bench.same("told of d/f", spent(bench, () -> bench.told("d/f", 0)), 0);
        Bench.same("read of block 1: the node, and it", spent(bench, () -> bench.read("d/f", 256, 10)), 2);
        Bench.same("read of nothing", spent(bench, () -> bench.read("d/f", 600, 10)), 0);
        Bench.same("read of all", spent(bench, () -> bench.read("d/f", 0, 4096)), 2);
        Bench.same("write: all is in the cache", spent(bench, () -> bench.write("d/f", "x", 0)), 0);
        Bench.same("fresh: the table, the node, the block", bench.disk.count(6), 5);
        Bench tiny = committed(2);
        Bench.same("a cache of 2: the table, then d's number, then the table", spent(tiny, () -> tiny.told("d", 0)), 7);
        Bench.same("a wrong path is not followed", spent(tiny, () -> tiny.told("d/", 0)), 0);
        Bench other = committed(64);
        Bench.same("the second path is not followed", spent(other, () -> other.move("x", "d/y")), 4);
        Bench.same("here it is", spent(other, () -> other.move("", "d/y")), 1);
    }

    private static void leastUsedLeavesTheCache() {
        Bench bench = committed(5);
        bench.told("d", 0);
        Bench.same("the table and the top's entries", bench.disk.count(7), 4);
        bench.list("d");
        Bench.same("and those of d", bench.disk.count(7), 5);
        Bench.same("all there", spent(bench, () -> bench.told("d/f", 0)), 0);
        Bench.same("the node takes the place of the top's entries", spent(bench, () -> bench.read("d/f", 0, 1)), 2);
        Bench.same("5 at the most", bench.disk.count(7), 5);
        Bench.same("the top's entries and d's again", spent(bench, () -> bench.told("d/f", 0)), 2);
    }

    private static void takenBlocksLeaveTheCache() {
        Bench bench = Bench.mounted(64, 8);
        bench.make("a", 1);
        Bench.same("0, 1 and 2 are in the cache", bench.disk.count(7), 3);
        bench.disk.sync();
        Bench.same("they stay", bench.disk.count(7), 3);
        Bench.same("4, 5, 6 and 7 are read", spent(bench, () -> bench.told("a", 0)), 4);
        Bench.same("cache", bench.disk.count(7), 7);
        Bench.same("0, 1, 2 and 3 are taken", bench.make("b", 1), 2);
        Bench.same("cache", bench.disk.count(7), 4);
        bench.disk.sync();
        Bench.same("ROOT", bench.disk.count(9), 9);
        Bench.same("0, 1, 2 and 3 are read", spent(bench, () -> bench.told("b", 0)), 4);
    }

    private static void takenNumbers() {
        Bench bench = Bench.mounted(64, 8);
        bench.make("a", 1);
        bench.write("a", Bench.pattern(300), 0);
        bench.disk.sync();
        Bench.same("ROOT", bench.disk.count(9), 11);
        bench.size("a", 256);
        // The table: 0, 1, 2. A new NODE: 3, that is free again as the first TREE takes its place.
        Bench.same("FRESH", bench.disk.count(6), 3);
        bench.write("a", "x", 0);
        Bench.same("FRESH", bench.disk.count(6), 4);
        bench.disk.sync();
        Bench.same("ROOT: 3 went to the file", bench.disk.count(9), 12);
        bench.remove("a");
        bench.disk.sync();
        Bench.same("FREE: all but the table and ROOT", bench.disk.count(5), 60);
    }

    private static void nodesTellWhatIsNone() {
        Bench bench = Bench.mounted(1024, 64);
        bench.make("a", 1);
        Bench.same("size", bench.size("a", 65536), 65536);
        bench.write("a", "x", 0);
        bench.disk.sync();
        bench.disk.mount(64);
        bench.told("a", 0);
        Bench.same("zeros: the top node alone", spent(bench, () -> bench.read("a", 61440, 4096)), 1);
        Bench.same("and two nodes more", spent(bench, () -> bench.read("a", 256, 256)), 2);
        Bench.same("the data block", spent(bench, () -> bench.read("a", 0, 1)), 1);
        bench.disk.mount(64);
        bench.told("a", 0);
        Bench.same("a data block that goes is not read", spent(bench, () -> bench.size("a", 0)), 3);
        bench.disk.mount(64);
        bench.told("a", 0);
        Bench.same("one that is changed is", spent(bench, () -> bench.size("a", 1)), 4);
    }

    private static void directoriesAreReadUpToTheName() {
        Bench bench = Bench.mounted(256, 64);
        for (int i = 1; i <= 20; i++) {
            bench.make("f" + i, 1);
        }
        bench.disk.sync();
        bench.disk.mount(64);
        bench.told("", 0);
        Bench.same("f2: the node, and the first block", spent(bench, () -> bench.told("f2", 0)), 2);
        Bench.same("f8: its inode is elsewhere", spent(bench, () -> bench.told("f8", 0)), 1);
        Bench.same("f9: the second block", spent(bench, () -> bench.told("f9", 0)), 1);
        Bench.same("x: the third block", spent(bench, () -> bench.told("x", 0)), 1);
        bench.disk.mount(64);
        Bench.same("remove: the last entry's block is read, too", spent(bench, () -> bench.remove("f1")), 6);
        bench.disk.mount(64);
        Bench.same("f20: its inode, and all entries", spent(bench, () -> bench.remove("f20")), 8);
    }

    private static void freeInodesAreLookedFor() {
        Bench bench = Bench.mounted(256, 64);
        for (int i = 1; i <= 27; i++) {
            bench.make("f" + i, 1);
        }
        bench.disk.sync();
        bench.disk.mount(64);
        // 28 INODES are 7 blocks below one NODE; the entries are 4 blocks below one NODE.
        Bench.same("make", spent(bench, () -> bench.make("g", 1)), 3 + 5 + 6);
        bench.disk.mount(64);
        Bench.same("it is there: nothing is looked for", spent(bench, () -> bench.make("f1", 1)), 3 + 2);
    }
}
