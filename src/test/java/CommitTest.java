/** Promises 16 and 22: sync and power, with the order in which COMMIT writes. */
public final class CommitTest {
    private CommitTest() {
    }

    public static void main(String[] args) {
        sync();
        orderOfWrites();
        nodesComeAfterTheirTrees();
        everyFailureLeavesTheOldOrTheNew();
        power();
        powerStopsReading();
        Bench.finish("CommitTest");
    }

    private static void sync() {
        Bench bench = Bench.mounted(64, 4);
        Bench.same("nothing to commit", bench.disk.sync(), 1);
        Bench.same("no access", bench.disk.count(2), 6);
        bench.make("a", 1);
        Bench.same("sync", bench.disk.sync(), 2);
        Bench.same("3 reads, 4 blocks, ROOT and the register", bench.disk.count(2), 6 + 3 + 4 + 2);
        Bench.same("nothing is fresh", bench.disk.count(6), 0);
        Bench.same("COUNT", bench.disk.count(8), 2);
        Bench.same("again", bench.disk.sync(), 2);
        Bench.same("no access", bench.disk.count(2), 15);
        Bench.same("the same size changes nothing", bench.size("a", 0), 0);
        Bench.same("so there is nothing to commit", bench.disk.sync(), 2);
        Bench.same("another size", bench.size("a", 1), 1);
        Bench.same("sync", bench.disk.sync(), 3);
        bench.disk.off();
        Bench.same("off", bench.disk.sync(), -3);
    }

    /** Makes 7 FRESH blocks: 4 5 6 the TABLE, 7 the top's ENTRY, 8 that of d, 9 the file's bytes. */
    private static Bench changed() {
        Bench bench = Bench.mounted(64, 8);
        bench.make("d", 2);
        bench.make("d/f", 1);
        bench.write("d/f", "x", 0);
        return bench;
    }

    private static boolean isWritten(Bench bench, int block) {
        for (int at = 0; at < 16; at++) {
            if (bench.disk.disk(block, at) != 0) {
                return true;
            }
        }
        return false;
    }

    private static void checkOrder(Bench bench, int stop, int[] order) {
        bench.disk.power(stop);
        Bench.same("sync", bench.disk.sync(), stop > order.length + 1 ? 2 : -2);
        for (int i = 0; i < order.length; i++) {
            boolean due = i + 1 < stop;
            Bench.holds("power(" + stop + "): block " + order[i], isWritten(bench, order[i]) == due);
        }
    }

    private static void orderOfWrites() {
        int[] order = {7, 8, 9, 6, 5, 4, 10};
        for (int stop = 1; stop <= order.length + 2; stop++) {
            Bench bench = changed();
            checkOrder(bench, stop, order);
            boolean whole = stop == order.length + 2;
            Bench.same("the register", bench.disk.count(9), whole ? 10 : 3);
            Bench.same("mounted", bench.disk.count(3), whole ? 1 : 0);
            bench.disk.power(0);
            Bench.same("mount", bench.disk.mount(2), whole ? 2 : 1);
            Bench.same("names", bench.names("") + bench.names("d"), whole ? "d=1f=2" : "-5");
        }
    }

    private static void nodesComeAfterTheirTrees() {
        int[] order = {7, 10, 9, 12, 11, 8, 6, 5, 4, 13};
        for (int stop = 1; stop <= order.length + 2; stop++) {
            Bench bench = Bench.mounted(64, 8);
            bench.make("f", 1);
            bench.size("f", 2000);
            // A top NODE 8, its first NODE 9 with DATA block 10, its second NODE 11 with DATA block 12.
            bench.write("f", "x", 1500);
            bench.write("f", "x", 1999);
            checkOrder(bench, stop, order);
        }
    }

    private static void everyFailureLeavesTheOldOrTheNew() {
        for (int stop = 1; stop < 40; stop++) {
            Bench bench = Bench.mounted(128, 3);
            bench.make("a", 1);
            bench.write("a", "old", 0);
            bench.disk.sync();
            bench.disk.mount(3);
            bench.disk.power(stop);
            int last = bench.write("a", "new", 600);
            last = last < 0 ? last : bench.make("b", 2);
            last = last < 0 ? last : bench.disk.sync();
            bench.disk.power(0);
            Bench.holds("power(" + stop + ")", last == -2 || last == 3);
            Bench.same("mount", bench.disk.mount(3), last == 3 ? 3 : 2);
            Bench.same("names", bench.names(""), last == 3 ? "a=1 b=2" : "a=1");
            Bench.same("size", bench.told("a", 1), last == 3 ? 603 : 3);
            Bench.same("not sealed", bench.disk.count(4), 0);
        }
    }

    private static void power() {
        Bench bench = Bench.mounted(64, 4);
        Bench.refused("power(-1)", IllegalArgumentException.class, () -> bench.disk.power(-1));
        bench.disk.power(1);
        bench.disk.power(0);
        Bench.same("it does not fail", bench.disk.mount(4), 1);
        bench.disk.power(1);
        bench.disk.power(3);
        Bench.same("the later call counts", bench.disk.mount(4), 1);
        Bench.same("the later call counts", bench.disk.mount(4), 1);
        int accesses = bench.disk.count(2);
        Bench.same("the third access", bench.disk.mount(4), -2);
        Bench.same("which is not made", bench.disk.count(2), accesses);
        Bench.same("only once", bench.disk.mount(4), 1);
        bench.disk.power(1);
        Bench.same("power is no flip", bench.disk.count(10), 0);
        Bench.same("calls without access go on", bench.disk.sync(), 1);
        Bench.same("told", bench.told("", 0), -2);
        Bench.same("nothing is mounted", bench.disk.count(3), 0);
        Bench.same("nothing is mounted", bench.told("", 0), -3);
        Bench.same("not sealed", bench.disk.count(4), 0);
        LyingDisk empty = new LyingDisk();
        empty.power(1);
        Bench.same("format drops it", empty.format(64), 5);
    }

    private static void powerStopsReading() {
        for (int call = 0; call < 8; call++) {
            Bench bench = Bench.mounted(128, 2);
            bench.make("a", 1);
            bench.write("a", "text", 0);
            bench.disk.sync();
            bench.disk.mount(2);
            bench.disk.power(4);
            Bench.same("call " + call, called(bench, call), -2);
            Bench.same("call " + call + ": mounted", bench.disk.count(3), 0);
            Bench.same("call " + call + ": again", called(bench, call), -3);
            bench.disk.mount(2);
            Bench.same("call " + call + ": content", bench.content("a"), "text");
        }
    }

    private static int called(Bench bench, int call) {
        switch (call) {
            case 0:
                return bench.make("b", 1);
            case 1:
                return bench.remove("a");
            case 2:
                return bench.move("a", "b");
            case 3:
                return bench.write("a", "x", 0);
            case 4:
                return bench.size("a", 0);
            case 5:
                return bench.read("a", 0, 1);
            case 6:
                return bench.list("");
            default:
                return bench.told("a", 0);
        }
    }
}
