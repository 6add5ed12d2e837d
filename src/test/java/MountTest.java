/** Promises 5 to 7: format, mount, off. */
public final class MountTest {
    private MountTest() {
    }

    public static void main(String[] args) {
        formatSizes();
        formatAnew();
        mount();
        mountLosesChanges();
        off();
        Bench.finish("MountTest");
    }

    private static void formatSizes() {
        for (int n : new int[] {-8, 0, 8, 56, 63, 65, 1020, 1032, Integer.MAX_VALUE, Integer.MIN_VALUE}) {
            LyingDisk disk = new LyingDisk();
            Bench.refused("format(" + n + ")", IllegalArgumentException.class, () -> disk.format(n));
            Bench.same("no disk", disk.count(1), 0);
        }
        for (int n : new int[] {64, 72, 104, 512, 1016, 1024}) {
            LyingDisk disk = new LyingDisk();
            Bench.same("format(" + n + ")", disk.format(n), 5);
            Bench.same("N", disk.count(1), n);
            Bench.same("ROOT's block", disk.count(9), 3);
            Bench.same("nothing is mounted", disk.count(3), 0);
            Bench.same("mount", disk.mount(2), 1);
            Bench.same("FREE", disk.count(5), n - 4);
            Bench.same("blocks behind are 0", disk.disk(n - 1, 255), 0);
        }
    }

    private static void formatAnew() {
        Bench bench = Bench.mounted(128, 4);
        bench.make("a", 1);
        bench.write("a", "text", 0);
        bench.read("a", 0, 9);
        bench.disk.sync();
        bench.disk.image(false);
        int kept = bench.disk.disk(4, 9);
        bench.disk.flip(99, 0, 1, 7);
        bench.disk.power(1);
        bench.disk.flip(98, 5, 0x5a, 0);
        bench.tape("tape");
        Bench.same("format drops what is planned first", bench.disk.format(72), 5);
        Bench.same("no flips are planned", bench.disk.count(10), 0);
        Bench.same("the tape stays", bench.disk.count(0), 4);
        Bench.same("the result stays", bench.result(), "text");
        Bench.same("accesses", bench.disk.count(2), 5);
        Bench.same("N", bench.disk.count(1), 72);
        Bench.refused("only 72 blocks", java.util.NoSuchElementException.class, () -> bench.disk.disk(72, 0));
        bench.disk.end(0);
        bench.disk.mount(2);
        Bench.same("nothing is there", bench.list(""), 0);
        Bench.same("all blocks are new", bench.disk.disk(4, 9), 0);
        bench.disk.image(true);
        Bench.same("what image kept stays", bench.disk.disk(4, 9), kept);
        bench.disk.flip(3, 0, 1, 0);
        Bench.same("ROOT altered", bench.disk.mount(2), -1);
        Bench.same("sealed", bench.disk.count(4), 1);
        Bench.same("format", bench.disk.format(128), 5);
        Bench.same("not sealed", bench.disk.count(4), 0);
        Bench.same("the blocks are 0 again", bench.disk.disk(98, 5), 0);
        Bench.same("mount", bench.disk.mount(2), 1);
    }

    private static void mount() {
        Bench bench = new Bench();
        Bench.same("no disk", bench.disk.mount(64), -3);
        bench.disk.format(64);
        for (int c : new int[] {Integer.MIN_VALUE, -1, 0, 1, 65, Integer.MAX_VALUE}) {
            Bench.refused("mount(" + c + ")", IllegalArgumentException.class, () -> bench.disk.mount(c));
        }
        Bench.same("mount(2)", bench.disk.mount(2), 1);
        Bench.refused("mount(1)", IllegalArgumentException.class, () -> bench.disk.mount(1));
        Bench.same("what throws leaves it mounted", bench.disk.count(3), 1);
        Bench.same("mount(64)", bench.disk.mount(64), 1);
        Bench.same("each mount reads ROOT", bench.disk.count(2), 7);
        Bench.same("ROOT is not in the cache", bench.disk.count(7), 0);
        bench.make("a", 1);
        Bench.same("the table's blocks are in the cache", bench.disk.count(7), 3);
        bench.disk.sync();
        Bench.same("COUNT", bench.disk.mount(2), 2);
        Bench.same("the cache is empty", bench.disk.count(7), 0);
        bench.disk.flip(bench.disk.count(9), 100, 4, 0);
        Bench.same("ROOT altered", bench.disk.mount(2), -1);
        Bench.refused("mount(1) of a sealed one", IllegalArgumentException.class, () -> bench.disk.mount(1));
        bench.disk.flip(bench.disk.count(9), 100, 4, 0);
        Bench.same("and that for good", bench.disk.mount(2), -1);
    }

    private static void mountLosesChanges() {
        Bench bench = Bench.mounted(64, 4);
        bench.make("a", 1);
        bench.disk.sync();
        bench.make("b", 1);
        Bench.same("fresh", bench.disk.count(6), 4);
        Bench.same("mount", bench.disk.mount(4), 2);
        Bench.same("nothing is fresh", bench.disk.count(6), 0);
        Bench.same("names", bench.names(""), "a=1");
        bench.make("c", 1);
        bench.disk.power(1);
        Bench.same("power fails", bench.disk.mount(4), -2);
        Bench.same("what was mounted is so no more", bench.disk.count(3), 0);
        Bench.same("mount", bench.disk.mount(4), 2);
        Bench.same("names", bench.names(""), "a=1");
    }

    private static void off() {
        Bench bench = Bench.mounted(64, 4);
        bench.make("a", 1);
        bench.disk.off();
        for (int what = 3; what <= 8; what++) {
            Bench.same("off: count(" + what + ")", bench.disk.count(what), 0);
        }
        Bench.same("off: told", bench.told("", 0), -3);
        Bench.same("off: sync", bench.disk.sync(), -3);
        bench.disk.off();
        Bench.same("mount", bench.disk.mount(4), 1);
        Bench.same("what was not committed is lost", bench.list(""), 0);
    }
}
