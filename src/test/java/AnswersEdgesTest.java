import java.util.function.ToIntFunction;

/** The edges that 'Terms' names: what FULL is, which answer counts, what is read, what has changed nothing. */
public final class AnswersEdgesTest {
    private AnswersEdgesTest() {
    }

    public static void main(String[] args) {
        fullForNames();
        fullForWrite();
        fullForSize();
        fullIsForFiveCalls();
        fullIsLookedAtLast();
        fullWithoutInodes();
        fullWithoutRoom();
        tampered();
        sealedForAllCalls();
        power();
        notMounted();
        notThere();
        orderOfAnswers();
        exceptionsComeFirst();
        refusedChangesNothing();
        pathsAreSplitFirst();
        entriesAreLookedAt();
        followedToItsEnd();
        freeInodeIsLookedFor();
        readWhenChanged();
        entriesComeAndGo();
        Bench.finish("AnswersEdgesTest");
    }

    /**
     * A MOUNTED DISK of which so many blocks are FREE. FILES: a, g of the size, r, x1 .. x7 with a byte or
     * none; DIRECTORIES: d with a FILE e, and o, empty.
     */
    private static Bench withFree(int free, int sizeOfG) {
        Bench bench = Bench.mounted(88, 8);
        for (String name : new String[] {"a", "g", "r", "x1", "x2", "x3", "x4", "x5", "x6", "x7", "h1", "h2", "h3"}) {
            bench.make(name, 1);
        }
        bench.make("d", 2);
        bench.make("d/e", 1);
        bench.make("o", 2);
        bench.size("g", sizeOfG);
        // TREES that are NONE, with heights 1, 2 and 3: their first byte needs 2, 3 and 4 blocks.
        for (int size : new int[] {257, 1793, 5000, 8500, 12545}) {
            bench.size("h3", size);
        }
        bench.size("h2", 1793);
        bench.size("h1", 257);
        int most = Math.max(free, 26);
        for (int i = 0; bench.disk.count(5) > most + 6; i++) {
            bench.disk.feed(0x61000000, 1, 2, 3, 4);
            bench.disk.write(1, 512 * i + 246);
        }
        for (int i = 1; bench.disk.count(5) > most; i++) {
            bench.write("x" + i, "x", 0);
        }
        String[] last = {"", "x7", "h1", "h2", "h3"};
        if (free < 26) {
            bench.write(last[26 - free], "x", 0);
        }
        Bench.same("FREE as prepared", bench.disk.count(5), free);
        return bench;
    }

    private static void fullEdge(String what, int needed, int sizeOfG, ToIntFunction<Bench> call, int due) {
        Bench enough = withFree(needed, sizeOfG);
        Bench.same(what + " with " + needed, call.applyAsInt(enough), due);
        Bench few = withFree(needed - 1, sizeOfG);
        int fresh = few.disk.count(6);
        Bench.same(what + " with " + (needed - 1), call.applyAsInt(few), -9);
        Bench.same(what + " changed nothing", few.disk.count(5), needed - 1);
        Bench.same(what + " changed nothing", few.disk.count(6), fresh);
    }

    private static void fullForNames() {
        Bench.says("Terms", "FULL, -9: FREE is below 2 * L + 24, L: ... others 0");
        fullEdge("make of a file", 24, 0, b -> b.make("new", 1), 17);
        fullEdge("make of a directory", 24, 0, b -> b.make("o/new", 2), 17);
        fullEdge("remove of an empty file", 24, 0, b -> b.remove("r"), 3);
        fullEdge("remove of an empty directory", 24, 0, b -> b.remove("o"), 16);
        fullEdge("remove of a file with blocks", 24, 0, b -> b.remove("a"), 1);
        fullEdge("move", 24, 0, b -> b.move("r", "s"), 3);
        fullEdge("move to another directory", 24, 0, b -> b.move("a", "o/a"), 1);
    }

    private static void fullForWrite() {
        Bench.says("Terms", "write: how many DATA blocks its bytes lie in");
        fullEdge("a byte", 26, 0, b -> b.write("g", "x", 0), 1);
        fullEdge("a byte at the end of a block", 26, 0, b -> b.write("g", "x", 255), 256);
        fullEdge("a byte in the next one", 26, 0, b -> b.write("g", "x", 256), 257);
        fullEdge("a byte over another", 26, 0, b -> b.write("x1", "y", 0), 1);
        fullEdge("two bytes in two blocks", 28, 0, b -> b.write("g", "xy", 255), 257);
        fullEdge("a whole block", 26, 0, b -> b.write("g", Bench.pattern(256), 256), 512);
        fullEdge("and a byte behind", 28, 0, b -> b.write("g", Bench.pattern(257), 256), 513);
        fullEdge("and a byte before", 28, 0, b -> b.write("g", Bench.pattern(257), 255), 512);
        fullEdge("and both", 30, 0, b -> b.write("g", Bench.pattern(258), 255), 513);
        fullEdge("the last byte of all", 26, 0, b -> b.write("g", "x", 65535), 65536);
        Bench.says("Promise 11", "Nothing to write: its size, whatever at is and however little is FREE");
        Bench.same("with 22", withFree(22, 0).write("g", "", 0), 0);
        Bench.same("with 22", withFree(22, 300).write("g", "", Integer.MAX_VALUE), 300);
    }

    private static void fullForSize() {
        Bench.says("Terms", "size: how many there are from the lesser size's place (block size / 256) "
            + "to the greater one's last byte");
        int[][] edges = {
            {0, 1, 1}, {0, 256, 1}, {0, 257, 2}, {1, 256, 1}, {1, 257, 2}, {255, 256, 1}, {255, 257, 2},
            {256, 257, 1}, {256, 512, 1}, {256, 513, 2}, {257, 512, 1}, {511, 513, 2}, {512, 513, 1}, {0, 1025, 5},
        };
        for (int[] edge : edges) {
            int needed = 24 + 2 * edge[2];
            String what = edge[0] + " and " + edge[1];
            fullEdge("up: " + what, needed, edge[0], b -> b.size("g", edge[1]), edge[1]);
            fullEdge("down: " + what, needed, edge[1], b -> b.size("g", edge[0]), edge[0]);
        }
        Bench.says("Promise 12", "the same: nothing changes, however little is FREE");
        Bench.same("with 22", withFree(22, 0).size("g", 0), 0);
        Bench.same("with 22", withFree(22, 300).size("g", 300), 300);
        Bench.same("another one with 22", withFree(22, 300).size("g", 299), -9);
    }

    private static void fullIsForFiveCalls() {
        Bench.says("Terms", "it is for make, remove, move, write and size alone");
        Bench bench = withFree(22, 300);
        Bench.same("read", bench.read("g", 0, 300), 300);
        Bench.same("list", bench.list("d"), 1);
        Bench.same("told", bench.told("g", 1), 300);
        Bench.same("sync", bench.disk.sync(), 2);
        Bench.same("ROOT was taken, the old table and ROOT are free", bench.disk.count(5), 22 - 1 + 4);
        Bench.same("mount", bench.disk.mount(2), 2);
    }

    private static void fullIsLookedAtLast() {
        Bench.says("Terms", "looked at last, before anything changes");
        Bench bench = withFree(22, 300);
        Bench.same("make: no path", bench.make("/", 1), -4);
        Bench.same("make: no directory", bench.make("n/n", 1), -5);
        Bench.same("make: it is there", bench.make("g", 1), -6);
        Bench.same("remove: not there", bench.remove("n"), -5);
        Bench.same("remove: the top", bench.remove(""), -8);
        Bench.same("remove: a directory with entries", bench.remove("d"), -8);
        Bench.same("move: not there", bench.move("n", "m"), -5);
        Bench.same("move: the top", bench.move("", "m"), -7);
        Bench.same("move: into itself", bench.move("d", "d/m"), -7);
        Bench.same("move: it is there", bench.move("g", "a"), -6);
        Bench.same("write: not there", bench.write("n", "x", 0), -5);
        Bench.same("write: a directory", bench.write("d", "x", 0), -7);
        Bench.same("write: beyond", bench.write("g", "x", 65536), -10);
        Bench.same("size: not there", bench.size("n", 0), -5);
        Bench.same("size: a directory", bench.size("d", 0), -7);
        Bench.same("size: beyond", bench.size("g", 65537), -10);
        Bench.same("and now -9", bench.size("g", 65536), -9);
        Bench.same("and now -9", bench.make("n", 1), -9);
    }

    /** A PATH of 20 bytes, so that one feed is enough. */
    private static int makeLong(Bench bench, boolean inD, int number) {
        bench.disk.feed(inD ? 0x642f6161 : 0x61616161, 0x62626262, 0x63636363, 0x64646464, 0x65656564 + number);
        return bench.disk.make(1);
    }

    private static void writeLong(Bench bench, int number, int at) {
        bench.disk.feed(0x61616161, 0x62626262, 0x63636363, 0x64646464, 0x65656564 + number);
        bench.disk.feed(1, 2, 3, 4, 5);
        bench.disk.write(20, at);
    }

    private static void fullWithoutInodes() {
        Bench.says("Terms", "the first in the order -1, -2, -3, -4, -5, -7, -6, -8, -10, -9 counts");
        Bench bench = Bench.mounted(128, 8);
        bench.make("d", 2);
        bench.make("h", 1);
        bench.size("h", 1793);
        for (int number = 3; number <= 127; number++) {
            makeLong(bench, number > 64, number);
        }
        Bench.same("no inode is free", bench.make("d/x", 1), -10);
        for (int i = 0; bench.disk.count(5) > 30; i++) {
            writeLong(bench, 3, 512 * i + 246);
        }
        for (int number = 4; bench.disk.count(5) > 26; number++) {
            writeLong(bench, number, 0);
        }
        bench.write("h", "x", 0);
        Bench.same("FREE", bench.disk.count(5), 23);
        Bench.same("no inode is free, and the disk is full", bench.make("d/x", 1), -10);
        Bench.same("full", bench.remove("h"), -9);
    }

    private static void fullWithoutRoom() {
        Bench.says("Terms", "the first in the order -1, -2, -3, -4, -5, -7, -6, -8, -10, -9 counts");
        Bench bench = Bench.mounted(72, 8);
        bench.make("h", 1);
        bench.size("h", 1793);
        bench.make("d", 2);
        bench.make("d/e", 1);
        for (int number = 4; number <= 65; number++) {
            makeLong(bench, false, number);
        }
        Bench.same("entries", bench.list(""), 64);
        for (int number = 4; bench.disk.count(5) > 26; number++) {
            writeLong(bench, number, 0);
        }
        bench.write("h", "x", 0);
        Bench.same("FREE", bench.disk.count(5), 23);
        Bench.same("make: 64 entries, and the disk is full", bench.make("x", 1), -10);
        Bench.same("move: 64 entries, and the disk is full", bench.move("d/e", "e"), -10);
        Bench.same("move in the same one: the disk is full", bench.move("d", "e"), -9);
        Bench.same("make elsewhere: the disk is full", bench.make("d/x", 1), -9);
    }

    private static Bench withFile() {
        Bench bench = Bench.mounted(64, 8);
        bench.make("d", 2);
        bench.make("d/f", 1);
        bench.write("d/f", "text", 0);
        bench.disk.sync();
        bench.disk.mount(8);
        return bench;
    }

    private static void tampered() {
        Bench.says("Terms", "TAMPERED: the REGISTER becomes SEALED at once (no ACCESS), nothing is MOUNTED, the answer is -1");
        Bench bench = withFile();
        int accesses = bench.disk.count(2);
        bench.disk.flip(5, 77, 1, 0);
        Bench.same("the second block of the table", bench.told("d", 0), -1);
        Bench.same("two reads, no more", bench.disk.count(2), accesses + 2);
        Bench.same("sealed", bench.disk.count(4), 1);
        for (int what : new int[] {3, 5, 6, 7, 8}) {
            Bench.same("count(" + what + ")", bench.disk.count(what), 0);
        }
        Bench.same("ROOT's block stays", bench.disk.count(9), 10);
        bench.disk.flip(5, 77, 1, 0);
        Bench.same("for good", bench.disk.mount(8), -1);
        Bench other = withFile();
        other.disk.flip(9, 77, 1, 0);
        Bench.same("what is not read is not noticed", other.told("d/f", 1), 4);
        Bench.same("not sealed", other.disk.count(4), 0);
        other.make("new", 1);
        Bench.same("nor what is not changed", other.disk.sync(), 3);
        Bench.same("what is, is", other.read("d/f", 0, 1), -1);
    }

    private static void sealedForAllCalls() {
        Bench.says("Terms", "so it is for all calls below, but format, from then on "
            + "(mount, make, remove, move, write, size, read, list, told, sync; the others go on as ever)");
        Bench bench = withFile();
        bench.list("d");
        bench.disk.flip(bench.disk.count(9), 0, 1, 0);
        Bench.same("mount", bench.disk.mount(8), -1);
        for (String name : Bench.PATH_CALLS) {
            Bench.same(name, bench.call(name, "d/f"), -1);
            Bench.same(name + " of no path", bench.call(name, "//"), -1);
            Bench.same(name + " of what is not there", bench.call(name, "n/n"), -1);
        }
        Bench.same("sync", bench.disk.sync(), -1);
        Bench.same("mount", bench.disk.mount(2), -1);
        bench.disk.off();
        Bench.same("sync", bench.disk.sync(), -1);
        Bench.same("feed", bench.disk.feed(1, 2, 3, 4, 5), 20);
        Bench.same("feed", bench.disk.feed(1, 2, 3, 4, 5), 40);
        Bench.same("end", bench.disk.end(32), 32);
        bench.disk.key();
        Bench.same("result", bench.disk.result(2), 1);
        Bench.same("disk", bench.disk.disk(63, 0), 0);
        Bench.same("flip", bench.disk.flip(63, 0, 3, 0), 3);
        Bench.same("flip", bench.disk.flip(63, 0, 3, 1), 1);
        bench.disk.copy(62, 63);
        Bench.same("copy", bench.disk.disk(62, 0), 3);
        bench.disk.image(false);
        bench.disk.image(true);
        bench.disk.power(3);
        Bench.same("count", bench.disk.count(10), 1);
        Bench.holds("register", bench.disk.register(0) >= 0);
        Bench.same("format", bench.disk.format(64), 5);
        Bench.same("not sealed", bench.disk.count(4), 0);
        Bench.same("mount", bench.disk.mount(2), 1);
    }

    private static void power() {
        Bench.says("Terms", "POWER fails before an ACCESS: that is not made; nothing is MOUNTED, the answer is -2");
        for (String name : Bench.PATH_CALLS) {
            Bench bench = withFile();
            int accesses = bench.disk.count(2);
            bench.disk.power(3);
            Bench.same(name, bench.call(name, "d/f"), -2);
            Bench.same(name + ": two were made", bench.disk.count(2), accesses + 2);
            Bench.same(name + ": mounted", bench.disk.count(3), 0);
            Bench.same(name + ": sealed", bench.disk.count(4), 0);
            Bench.same(name + ": once", bench.call(name, "d/f"), -3);
            Bench.same(name + ": mount", bench.disk.mount(8), 2);
            Bench.same(name + ": what there is", bench.content("d/f"), "text");
        }
        Bench bench = withFile();
        bench.disk.power(1);
        Bench.same("mount", bench.disk.mount(8), -2);
        Bench.same("mounted", bench.disk.count(3), 0);
        bench.disk.mount(8);
        bench.make("x", 1);
        bench.disk.power(1);
        Bench.same("sync", bench.disk.sync(), -2);
        Bench.same("mount", bench.disk.mount(8), 2);
        Bench.same("what was not committed is lost", bench.told("x", 0), -5);
    }

    private static void notMounted() {
        Bench.says("Terms", "Nothing is MOUNTED: -3");
        Bench none = new Bench();
        Bench formatted = new Bench();
        formatted.disk.format(64);
        Bench off = withFile();
        off.disk.off();
        for (Bench bench : new Bench[] {none, formatted, off}) {
            bench.disk.power(1);
            for (String name : Bench.PATH_CALLS) {
                Bench.same(name, bench.call(name, "d"), -3);
                Bench.same(name + " of no path", bench.call(name, "/"), -3);
            }
            Bench.same("sync", bench.disk.sync(), -3);
        }
    }

    private static void notThere() {
        Bench.says("Terms", "It is not there (or a NAME before its last is no DIRECTORY): -5");
        Bench bench = withFile();
        bench.make("d/e", 2);
        for (String name : Bench.PATH_CALLS) {
            Bench.same(name + ": no directory", bench.call(name, "n/f"), -5);
            Bench.same(name + ": no directory in one", bench.call(name, "d/n/f"), -5);
            Bench.same(name + ": a file", bench.call(name, "d/f/f"), -5);
            Bench.same(name + ": deeper below a file", bench.call(name, "d/f/f/f"), -5);
            if (!name.equals("make")) {
                Bench.same(name + ": no such name", bench.call(name, "n"), -5);
                Bench.same(name + ": no such name in an empty directory", bench.call(name, "d/e/n"), -5);
            }
        }
        Bench.same("the second of a move", bench.move("d/e", "n/f"), -5);
        Bench.same("the second of a move, below a file", bench.move("d/e", "d/f/f"), -5);
    }

    private static void orderOfAnswers() {
        Bench.says("Terms", "Of several answers that are due the first in the order "
            + "-1, -2, -3, -4, -5, -7, -6, -8, -10, -9 counts");
        Bench bench = withFile();
        bench.make("g", 1);
        bench.disk.power(1);
        Bench.same("-4 needs no access", bench.told("//", 0), -4);
        bench.disk.power(0);
        Bench.same("-4 before -5: the second path", bench.move("n", "n//"), -4);
        Bench.same("-4 before -5: the first path", bench.move("/", "n/n"), -4);
        Bench.same("-4 before -7", bench.move("", "/"), -4);
        Bench.same("-5 before -7: the top", bench.move("", "n/n"), -5);
        Bench.same("-5 before -7: into itself", bench.move("d", "d/n/n"), -5);
        Bench.same("-5 before -7: into a file in itself", bench.move("d", "d/f/n"), -5);
        Bench.same("-5 before -6: the second is there", bench.move("n", "d"), -5);
        Bench.same("-7 before -6: the top to what is there", bench.move("", "g"), -7);
        Bench.same("-7 before -6: the top to itself", bench.move("", ""), -7);
        Bench.same("-7 before -6: into itself, what is there", bench.move("d", "d/f"), -7);
        Bench.same("-6, not -7: to itself", bench.move("d", "d"), -6);
        Bench.same("-7 before -10: write", bench.write("d", "x", 65536), -7);
        Bench.same("-7 before -10: size", bench.size("d", 65537), -7);
        Bench.same("-5 before -10: write", bench.write("n", "x", 65536), -5);
        Bench.same("-5 before -10: size", bench.size("n", 65537), -5);
        for (int i = 0; i < 62; i++) {
            makeLong(bench, false, i + 1);
        }
        Bench.same("64 entries", bench.list(""), 64);
        Bench.same("-6 before -10: make", bench.make("g", 1), -6);
        Bench.same("-6 before -10: move", bench.move("d/f", "g"), -6);
        Bench.same("-5 before -10: move", bench.move("d/n", "n"), -5);
        Bench.same("-7 before -10: move of the top", bench.move("", "n"), -7);
        Bench.same("-10", bench.move("d/f", "n"), -10);
    }

    private static void exceptionsComeFirst() {
        Bench.says("Terms", "An exception comes before all of them; of several the one that the call names first");
        Bench none = new Bench();
        Bench sealed = withFile();
        sealed.disk.flip(sealed.disk.count(9), 0, 1, 0);
        sealed.disk.mount(8);
        Bench mounted = withFile();
        for (Bench bench : new Bench[] {none, sealed, mounted}) {
            LyingDisk disk = bench.tape("//").disk;
            Runnable[] calls = {
                disk::key, () -> disk.end(-1), () -> disk.end(3), () -> disk.format(1), () -> disk.mount(1),
                () -> disk.mount(65), () -> disk.make(0), () -> disk.make(3), () -> disk.move(-1), () -> disk.move(3),
                () -> disk.write(-1, 0), () -> disk.write(3, 0), () -> disk.write(0, -1), () -> disk.size(-1),
                () -> disk.read(-1, 0), () -> disk.read(0, -1), () -> disk.read(0, 4097), () -> disk.told(-1),
                () -> disk.told(4), () -> disk.power(-1),
            };
            for (int i = 0; i < calls.length; i++) {
                Bench.refused("call " + i, IllegalArgumentException.class, calls[i]);
            }
            Bench.refused("register(32)", IndexOutOfBoundsException.class, () -> disk.register(32));
            Bench.refused("register(-1)", IndexOutOfBoundsException.class, () -> disk.register(-1));
            Class<java.util.NoSuchElementException> noBlock = java.util.NoSuchElementException.class;
            Bench.refused("disk(64, 256)", noBlock, () -> disk.disk(64, 256));
            Bench.refused("disk(-1, -1)", noBlock, () -> disk.disk(-1, -1));
            Bench.refused("flip(64, 256, 0, -1)", noBlock, () -> disk.flip(64, 256, 0, -1));
            Bench.refused("copy(64, -1)", noBlock, () -> disk.copy(64, -1));
        }
        Bench.refused("flip(0, 256, 0, -1)", IndexOutOfBoundsException.class, () -> mounted.disk.flip(0, 256, 0, -1));
        for (int i = 1; i <= 64; i++) {
            mounted.disk.flip(0, 0, 1, 1000);
        }
        Bench.refused("64 planned, no block", java.util.NoSuchElementException.class, () -> mounted.disk.flip(64, 0, 0, 1));
        Bench.refused("64 planned, no byte", IndexOutOfBoundsException.class, () -> mounted.disk.flip(0, 256, 0, 1));
        Bench.refused("64 planned, below 0", IllegalArgumentException.class, () -> mounted.disk.flip(0, 0, 0, -1));
        Bench.refused("64 planned", IllegalStateException.class, () -> mounted.disk.flip(0, 0, 0, 1));
    }

    private static String state(Bench bench) {
        StringBuilder text = new StringBuilder();
        for (int what : new int[] {3, 4, 5, 6, 8, 9, 10, 11}) {
            text.append(bench.disk.count(what)).append(' ');
        }
        return text.toString();
    }

    private static void refusedChangesNothing() {
        Bench.says("Terms", "What answers below 0 has changed nothing (but TAMPERED, POWER)");
        Bench bench = withFile();
        bench.make("g", 1);
        bench.write("g", "x", 0);
        bench.read("d/f", 0, 4);
        String before = state(bench);
        int[] answers = {
            bench.make("g", 2), bench.make("n/n", 1), bench.make("/", 1), bench.remove("d"), bench.remove(""),
            bench.remove("n"), bench.move("g", "d"), bench.move("d", "d/n"), bench.move("n", "m"), bench.move("g", "n/n"),
            bench.write("d", "x", 0), bench.write("g", "xy", 65535), bench.write("n", "x", 0), bench.size("g", 65537),
            bench.size("d", 5), bench.size("g", 65536), bench.read("d", 0, 9), bench.read("n", 0, 9), bench.list("g"),
            bench.list("n"), bench.told("n", 0), bench.told("g/n", 0),
        };
        for (int i = 0; i < answers.length; i++) {
            Bench.holds("call " + i + " is refused", answers[i] < -3);
        }
        Bench.same("state", state(bench), before);
        Bench.same("the result", bench.result(), "text");
        Bench.same("names", bench.names("") + ", " + bench.names("d"), "d=1 g=3, f=2");
        Bench.same("bytes", bench.content("g") + bench.content("d/f"), "xtext");
    }

    private static void pathsAreSplitFirst() {
        Bench.says("Terms", "first PATHS are split (-4)");
        Bench bench = withFile();
        for (String name : Bench.PATH_CALLS) {
            Bench.same(name + " reads nothing", bench.spent(() -> bench.call(name, "d/")), 0);
        }
        Bench.same("nor does a move whose second path is none", bench.spent(() -> bench.move("d", "/")), 0);
        Bench.same("its answer", bench.move("d", "/"), -4);
        Bench.says("Terms", "One is followed: INODE 0 is read");
        Bench.same("the top: the table", bench.spent(() -> bench.told("", 0)), 3);
    }

    /** FILES f1 .. f20, COMMITTED: the ENTRIES are a NODE with 3 DATA blocks, the INODES lie in 6 blocks. */
    private static Bench withTwenty(int cache) {
        Bench bench = Bench.mounted(128, 8);
        for (int i = 1; i <= 20; i++) {
            bench.make("f" + i, 1);
        }
        bench.disk.sync();
        bench.disk.mount(cache);
        return bench;
    }

    private static void entriesAreLookedAt() {
        Bench.says("Terms", "its ENTRIES are looked at, from the first on, up to the one with the NAME, or all, "
            + "each DATA block of them read once, at its first ENTRY; then the INODE of that one is read");
        String[] names = {"f1", "f3", "f4", "f8", "f9", "f16", "f17", "f20", "n", "f1/n", "f8/n"};
        // The TABLE's 3, the NODE, the DATA blocks up to the ENTRY's, and the INODE's block if it is another.
        int[] due = {5, 5, 6, 6, 7, 7, 8, 8, 7, 5, 6};
        for (int i = 0; i < names.length; i++) {
            Bench bench = withTwenty(64);
            String name = names[i];
            Bench.same("reads for " + name, bench.spent(() -> bench.told(name, 0)), due[i]);
        }
        // A CACHE of two holds nothing but what was read last.
        Bench.same("56 entries: a node, 7 data blocks", readsForNone(56), 3 + 1 + 7);
        Bench.same("57 entries: two nodes for each of 8 data blocks", readsForNone(57), 3 + 3 * 8);
    }

    private static int readsForNone(int entries) {
        Bench bench = Bench.mounted(128, 8);
        for (int number = 1; number <= entries; number++) {
            makeLong(bench, false, number);
        }
        bench.disk.sync();
        bench.disk.mount(2);
        return bench.spent(() -> Bench.same("not there", bench.told("n", 0), -5));
    }

    private static void followedToItsEnd() {
        Bench.says("Terms", "A PATH is followed to its end before -6, -7, -8 are looked at");
        String[] names = {"make", "list", "remove"};
        int[] due = {-6, -7, -8};
        for (int i = 0; i < names.length; i++) {
            for (int stop = 6; stop <= 7; stop++) {
                Bench bench = Bench.mounted(128, 8);
                for (int k = 1; k <= 8; k++) {
                    bench.make("f" + k, names[i].equals("remove") ? 2 : 1);
                }
                if (names[i].equals("remove")) {
                    bench.make("f8/x", 1);
                }
                bench.disk.sync();
                bench.disk.mount(8);
                // The TABLE's 3, the ENTRIES, the INODE's block: 5 reads.
                bench.disk.power(stop - 1);
                Bench.same(names[i] + " with power(" + (stop - 1) + ")", bench.call(names[i], "f8"), stop == 6 ? -2 : due[i]);
            }
        }
        Bench bench = withTwenty(64);
        Bench.same("the first of a move", bench.spent(() -> bench.move("n", "f9")), 7);
        Bench other = withTwenty(64);
        Bench.same("both of a move", other.spent(() -> other.move("f4", "f17")), 9);
    }

    private static void freeInodeIsLookedFor() {
        Bench.says("Terms", "make then, if the DIRECTORY has room, looks for a free one in the TABLE's DATA blocks, "
            + "from the first on up to the first that has one, each read once (NONE: all four are free)");
        Bench bench = withTwenty(64);
        Bench.same("5 blocks more, all entries", bench.spent(() -> bench.make("n", 1)), 3 + 4 + 5);
        Bench.same("the free one", bench.told("n", 2), 21);
        Bench gap = withTwenty(64);
        gap.remove("f5");
        gap.disk.sync();
        gap.disk.mount(64);
        Bench.same("1 block more", gap.spent(() -> gap.make("n", 1)), 3 + 4 + 1);
        Bench.same("the free one", gap.told("n", 2), 5);
        Bench three = Bench.mounted(64, 8);
        three.make("a", 1);
        three.make("b", 1);
        three.make("c", 1);
        three.disk.sync();
        three.disk.mount(8);
        Bench.same("NONE is not read", three.spent(() -> three.make("d", 1)), 4);
        Bench.same("the first of its four", three.told("d", 2), 4);
        Bench full = Bench.mounted(128, 8);
        for (int i = 1; i <= 64; i++) {
            makeLong(full, false, i);
        }
        full.disk.sync();
        full.disk.mount(64);
        Bench.same("no room: the table, the entries, no inode", full.spent(() -> full.make("n", 1)), 3 + 1 + 2 + 8);
        Bench.same("nothing of that again", full.spent(() -> full.make("n", 1)), 0);
    }

    private static void readWhenChanged() {
        Bench.says("Terms", "READING, all else is read only when it is changed");
        Bench bench = Bench.mounted(64, 8);
        bench.make("a", 1);
        bench.write("a", Bench.pattern(512), 0);
        bench.disk.sync();
        int[] due = {1, 0, 2, 3, 1, 1, 2, 1};
        for (int i = 0; i < due.length; i++) {
            bench.disk.mount(8);
            bench.told("a", 0);
            int call = i;
            Bench.same("call " + i, bench.spent(() -> changed(bench, call)), due[i]);
        }
    }

    private static void changed(Bench bench, int call) {
        switch (call) {
            case 0:
                bench.write("a", "x", 512);
                break;
            case 1:
                bench.size("a", 600);
                break;
            case 2:
                bench.write("a", "x", 0);
                break;
            case 3:
                bench.write("a", "xy", 255);
                break;
            case 4:
                bench.size("a", 256);
                break;
            case 5:
                bench.size("a", 0);
                break;
            case 6:
                bench.write("a", Bench.pattern(256), 256);
                break;
            default:
                bench.remove("a");
        }
    }

    private static void entriesComeAndGo() {
        Bench.says("Terms", "An ENTRY is put: the DIRECTORY's INODE is changed, its size grows, the DATA block is changed");
        Bench eight = Bench.mounted(64, 8);
        for (int i = 1; i <= 8; i++) {
            eight.make("" + i, 1);
        }
        eight.disk.sync();
        eight.disk.mount(16);
        eight.told("", 0);
        Bench.same("a ninth: the entries, two blocks of inodes", eight.spent(() -> eight.make("9", 1)), 3);
        Bench.same("4 of the table; a node and a second block", eight.disk.count(6), 6);
        Bench.says("Terms", "if it is not the last, the last one's DATA block is read and then its own changed; the size shrinks");
        String[] names = {"f20", "f17", "f16", "f1"};
        // f20 .. f17 and the last lie in the third DATA block, f16 in the second, f1 in the first.
        int[] reads = {8, 8, 8, 6};
        int[] fresh = {6, 6, 7, 6};
        for (int i = 0; i < names.length; i++) {
            Bench bench = withTwenty(64);
            String name = names[i];
            Bench.same("reads to remove " + name, bench.spent(() -> bench.remove(name)), reads[i]);
            Bench.same("fresh to remove " + name, bench.disk.count(6), fresh[i]);
        }
        lastEntryIsNotChanged();
        for (int gone : new int[] {1, 8, 9, 12, 17, 19}) {
            Bench bench = withTwenty(8);
            Bench.same("remove", bench.remove("f" + gone), gone);
            StringBuilder due = new StringBuilder();
            for (int i = 1; i <= 19; i++) {
                int name = i == gone ? 20 : i;
                due.append(i == 1 ? "" : " ").append("f").append(name).append("=").append(name);
            }
            Bench.same("the last one is in its place", bench.names(""), due.toString());
        }
    }

    private static void lastEntryIsNotChanged() {
        Bench bench = Bench.mounted(64, 16);
        bench.make("a", 1);
        bench.disk.sync();
        bench.write("a", "x", 0);
        bench.disk.sync();
        bench.move("a", "b");
        bench.disk.sync();
        bench.told("b", 0);
        // 0 1 2 7 are no more used, 4 5 6 are the TABLE, 8 has the ENTRY: the TABLE takes 0 1 2 again.
        Bench.same("the cache", bench.disk.count(7), 8);
        bench.remove("b");
        Bench.same("7 was not taken for the entries", bench.disk.count(7), 5);
    }
}
