/** Promises 1 to 4: a new object, feed, end, key. */
public final class TapeTest {
    private TapeTest() {
    }

    public static void main(String[] args) {
        newObject();
        feed();
        end();
        key();
        whoTakesTheTape();
        Bench.finish("TapeTest");
    }

    private static void newObject() {
        LyingDisk disk = new LyingDisk();
        int[] due = {0, 0, 0, 0, 0, 0, 0, 0, 0, -1, 0, 0};
        for (int what = 0; what < due.length; what++) {
            Bench.same("new: count(" + what + ")", disk.count(what), due[what]);
        }
        Bench.same("new: mount", disk.mount(2), -3);
        Bench.same("new: make", disk.make(1), -3);
        Bench.same("new: sync", disk.sync(), -3);
        Bench.same("new: list", disk.list(), -3);
        Bench.refused("new: register", IllegalStateException.class, () -> disk.register(0));
        Bench.refused("new: disk", java.util.NoSuchElementException.class, () -> disk.disk(0, 0));
        Bench.refused("new: result", IndexOutOfBoundsException.class, () -> disk.result(0));
        Bench.refused("new: image", IllegalStateException.class, () -> disk.image(false));
    }

    private static void feed() {
        Bench bench = Bench.mounted(64, 4);
        Bench.same("feed", bench.disk.feed(0x61000000, 0x01020304, 0x7f80ff00, -1, 5), 20);
        Bench.same("feed", bench.disk.feed(6, 7, 8, 9, 10), 40);
        Bench.same("count(0)", bench.disk.count(0), 40);
        bench.disk.end(0);
        bench.make("a", 1);
        bench.disk.feed(0x61010203, 0x047f80ff, 0x00000009, 0, 0);
        bench.disk.end(12);
        Bench.same("write", bench.disk.write(1, 0), 11);
        Bench.same("the bytes of each number, the highest first", bench.content("a"),
            "\u0001\u0002\u0003\u0004\u007f\u0080\u00ff\0\0\0\t");
    }

    private static void end() {
        LyingDisk disk = new LyingDisk();
        Bench.same("end(0) of nothing", disk.end(0), 0);
        disk.feed(1, 2, 3, 4, 5);
        Bench.refused("end(-1)", IllegalArgumentException.class, () -> disk.end(-1));
        Bench.refused("end(21)", IllegalArgumentException.class, () -> disk.end(21));
        Bench.same("end(20)", disk.end(20), 20);
        Bench.same("end(3)", disk.end(3), 3);
        Bench.refused("end(4)", IllegalArgumentException.class, () -> disk.end(4));
        Bench.same("feed behind the end", disk.feed(1, 2, 3, 4, 5), 23);
    }

    private static void key() {
        LyingDisk plain = new LyingDisk();
        plain.format(64);
        int before = plain.disk(3, 0);
        Bench bench = new Bench();
        bench.disk.format(64);
        bench.tape("0123456789abcdef0123456789ABCDEF");
        bench.disk.key();
        Bench.same("key takes the tape", bench.disk.count(0), 0);
        Bench.same("the key of the disk stays", bench.disk.mount(2), 1);
        bench.make("a", 1);
        Bench.same("the key of the disk stays", bench.disk.sync(), 2);
        Bench.same("the key of the disk stays", bench.disk.mount(2), 2);
        bench.disk.format(64);
        Bench.holds("another key, other bytes", bench.disk.disk(3, 0) != before || bench.disk.register(0) != plain.register(0));
        Bench.same("mount with the new key", bench.disk.mount(2), 1);
        bench.disk.feed(1, 2, 3, 4, 5);
        Bench.refused("key of 20 bytes", IllegalArgumentException.class, () -> bench.disk.key());
        Bench.same("what throws leaves the tape", bench.disk.count(0), 20);
        bench.disk.feed(1, 2, 3, 4, 5);
        bench.disk.end(33);
        Bench.refused("key of 33 bytes", IllegalArgumentException.class, () -> bench.disk.key());
        bench.disk.end(32);
        bench.disk.key();
    }

    private static void whoTakesTheTape() {
        Bench bench = new Bench();
        Bench.same("not mounted", bench.tape("a").disk.told(0), -3);
        Bench.same("taken all the same", bench.disk.count(0), 0);
        bench.disk.format(64);
        bench.tape("a").disk.sync();
        bench.disk.mount(2);
        bench.disk.off();
        bench.disk.mount(2);
        Bench.same("format, sync, mount and off leave it", bench.disk.count(0), 1);
        Bench.same("make", bench.disk.make(1), 1);
        Bench.same("make takes it", bench.disk.count(0), 0);
        bench.tape("a");
        Bench.refused("told(4)", IllegalArgumentException.class, () -> bench.disk.told(4));
        Bench.refused("make(3)", IllegalArgumentException.class, () -> bench.disk.make(3));
        Bench.refused("move(2)", IllegalArgumentException.class, () -> bench.disk.move(2));
        Bench.refused("write(2, 0)", IllegalArgumentException.class, () -> bench.disk.write(2, 0));
        Bench.refused("size(-1)", IllegalArgumentException.class, () -> bench.disk.size(-1));
        Bench.refused("read(0, 4097)", IllegalArgumentException.class, () -> bench.disk.read(0, 4097));
        Bench.same("what throws leaves the tape", bench.disk.count(0), 1);
        Bench.same("read", bench.disk.read(0, 1), 0);
        Bench.same("read takes it", bench.disk.count(0), 0);
        Bench.same("list", bench.tape("a").disk.list(), -7);
        Bench.same("list takes it", bench.disk.count(0), 0);
        Bench.same("size", bench.tape("x").disk.size(9), -5);
        Bench.same("size takes it", bench.disk.count(0), 0);
        Bench.same("write", bench.tape("a").disk.write(1, 0), 0);
        Bench.same("write takes it", bench.disk.count(0), 0);
        Bench.same("move", bench.tape("ab").disk.move(1), 1);
        Bench.same("move takes it", bench.disk.count(0), 0);
        Bench.same("remove", bench.tape("b").disk.remove(), 1);
        Bench.same("remove takes it", bench.disk.count(0), 0);
    }
}
