import java.util.NoSuchElementException;

/** The edges that the promises 1 to 16 name, call by call. */
public final class CallsEdgesTest {
    private static final int LEAST = Integer.MIN_VALUE;
    private static final int MOST = Integer.MAX_VALUE;

    private CallsEdgesTest() {
    }

    public static void main(String[] args) {
        newObject();
        feed();
        feedWithoutRoom();
        end();
        key();
        formatArgument();
        formatRefused();
        formatDrops();
        mountArgument();
        mountLeavesWhatWas();
        mountAnswers();
        off();
        makeSort();
        makeNumber();
        makeThere();
        makeWithoutRoom();
        remove();
        removeInUse();
        moveArgument();
        moveAnswers();
        moveDeep();
        moveWithoutRoom();
        writeArguments();
        writeBeyond();
        writeNothing();
        writeGrows();
        sizeArgument();
        sizeSame();
        readArguments();
        readFromTheEnd();
        list();
        told();
        sync();
        Bench.finish("CallsEdgesTest");
    }

    private static void refusedAll(String what, int[] wrong, java.util.function.IntConsumer call) {
        for (int n : wrong) {
            Bench.refused(what + " with " + n, IllegalArgumentException.class, () -> call.accept(n));
        }
    }

    private static Bench withBoth() {
        Bench bench = Bench.mounted(64, 8);
        bench.make("f", 1);
        bench.make("d", 2);
        bench.write("f", "text", 0);
        bench.disk.sync();
        return bench;
    }

    private static void newObject() {
        Bench.says("Promise 1", "There is no DISK; KEY is 0");
        LyingDisk disk = new LyingDisk();
        int[] due = {0, 0, 0, 0, 0, 0, 0, 0, 0, -1, 0, 0, -1};
        for (int what = 0; what < due.length; what++) {
            Bench.same("count(" + what + ")", disk.count(what), due[what]);
        }
        Bench.same("mount", disk.mount(2), -3);
        Bench.same("mount", disk.mount(64), -3);
        Bench.same("sync", disk.sync(), -3);
        Bench.refused("disk", NoSuchElementException.class, () -> disk.disk(0, 0));
        Bench.refused("flip", NoSuchElementException.class, () -> disk.flip(0, 0, 0, 0));
        Bench.refused("copy", NoSuchElementException.class, () -> disk.copy(0, 0));
        Bench.refused("image(false)", IllegalStateException.class, () -> disk.image(false));
        Bench.refused("image(true)", IllegalStateException.class, () -> disk.image(true));
        Bench.refused("register", IllegalStateException.class, () -> disk.register(0));
        Bench.refused("result", IndexOutOfBoundsException.class, () -> disk.result(0));
        Bench.refused("key", IllegalArgumentException.class, disk::key);
        disk.off();
        disk.power(1);
        Bench.same("format", disk.format(64), 5);
    }

    private static void feed() {
        Bench.says("Promise 2", "The four bytes of each number, the highest first, come to the TAPE: its length");
        Bench bench = withBoth();
        Bench.same("feed", bench.disk.feed(0x66, 0, 0, 0, 0), 20);
        Bench.same("it is not at the front", bench.disk.told(0), -4);
        bench.disk.feed(0x66ff0180, LEAST, MOST, -1, 0x0a0b0c0d);
        Bench.same("write", bench.disk.write(1, 0), 19);
        bench.read("f", 0, 19);
        Bench.same("bytes", bench.result(), "\u00ff\1\u0080\u0080\0\0\0\u007f\u00ff\u00ff\u00ff"
            + "\u00ff\u00ff\u00ff\u00ff\n\u000b\f\r");
    }

    private static void feedWithoutRoom() {
        Bench.says("Promise 2", "IllegalStateException: there is no room for 20");
        // An object's 512 calls cannot come so far, so this goes beyond them.
        LyingDisk disk = new LyingDisk();
        for (int i = 1; i <= 3276; i++) {
            Bench.same("feed", disk.feed(1, 2, 3, 4, 5), 20 * i);
        }
        Bench.refused("16 are left", IllegalStateException.class, () -> disk.feed(0, 0, 0, 0, 0));
        Bench.same("nothing came", disk.count(0), 65520);
        disk.end(65517);
        Bench.refused("19 are left", IllegalStateException.class, () -> disk.feed(0, 0, 0, 0, 0));
        disk.end(65516);
        Bench.says("Terms", "THE TAPE: bytes gathered by feed, at most 65,536");
        Bench.same("20 are left", disk.feed(0, 0, 0, 0, 0), 65536);
        Bench.refused("none is left", IllegalStateException.class, () -> disk.feed(0, 0, 0, 0, 0));
        Bench.same("all of it", disk.end(65536), 65536);
        Bench.same("the tape", disk.end(1), 1);
        Bench.same("room again", disk.feed(0, 0, 0, 0, 0), 21);
    }

    private static void end() {
        Bench.says("Promise 3", "Only the first n bytes of the TAPE stay: n. "
            + "IllegalArgumentException: n is not 0 .. its length");
        LyingDisk disk = new LyingDisk();
        Bench.same("0 of an empty tape", disk.end(0), 0);
        refusedAll("end of an empty tape", new int[] {LEAST, -1, 1, MOST}, disk::end);
        disk.feed(1, 2, 3, 4, 5);
        refusedAll("end of 20", new int[] {LEAST, -1, 21, MOST}, disk::end);
        Bench.same("the tape", disk.count(0), 20);
        Bench.same("all", disk.end(20), 20);
        Bench.same("all but one", disk.end(19), 19);
        refusedAll("end of 19", new int[] {-1, 20}, disk::end);
        Bench.same("none", disk.end(0), 0);
        refusedAll("end of none", new int[] {-1, 1}, disk::end);
        Bench bench = withBoth();
        bench.tape("fxyz").disk.end(1);
        Bench.same("the first ones", bench.disk.told(1), 4);
        bench.tape("fxyz").disk.end(1);
        bench.tape("ABC");
        Bench.same("what was cut off is gone", bench.disk.write(1, 0), 4);
        Bench.same("content", bench.content("f"), "ABCt");
    }

    private static void key() {
        Bench.says("Promise 4", "The TAPE is the KEY from the next format on. "
            + "IllegalArgumentException: it has not 32 bytes");
        Bench bench = withBoth();
        for (int length : new int[] {0, 1, 31, 33, 64}) {
            bench.tape(new byte[length]);
            Bench.refused("key of " + length, IllegalArgumentException.class, bench.disk::key);
            Bench.same("the tape", bench.disk.count(0), length);
            bench.disk.end(0);
        }
        bench.tape("0123456789abcdefghijklmnopqrstuv").disk.key();
        Bench.same("the tape", bench.disk.count(0), 0);
        bench.disk.mount(8);
        Bench.same("the disk has the old one", bench.content("f"), "text");
        bench.write("f", "T", 0);
        bench.disk.sync();
        bench.disk.mount(8);
        Bench.same("the disk has the old one", bench.content("f"), "Text");
        int plain = bench.disk.register(0) << 8 | bench.disk.register(1);
        LyingDisk zero = new LyingDisk();
        zero.format(64);
        bench.disk.format(64);
        Bench.holds("the next disk has it", bench.disk.register(0) != zero.register(0)
            || bench.disk.register(1) != zero.register(1));
        int digest = bench.disk.register(0);
        bench.disk.format(64);
        Bench.same("and the one behind, too", bench.disk.register(0), digest);
        Bench.holds("another disk", plain != (bench.disk.register(0) << 8 | bench.disk.register(1)));
        Bench.same("mount", bench.disk.mount(8), 1);
        Bench.same("it can be read", bench.list(""), 0);
    }

    private static void formatArgument() {
        Bench.says("Promise 5", "IllegalArgumentException: n is not a multiple of 8 from 64 to 1024");
        LyingDisk none = new LyingDisk();
        int[] wrong = {LEAST, -64, -8, -1, 0, 1, 8, 56, 63, 65, 66, 68, 71, 1016 + 4, 1023, 1025, 1032, 2048, MOST, MOST - 7};
        refusedAll("format", wrong, none::format);
        Bench.same("there is no disk", none.count(1), 0);
        for (int n : new int[] {64, 72, 80, 1008, 1016, 1024}) {
            LyingDisk disk = new LyingDisk();
            Bench.same("format(" + n + ")", disk.format(n), 5);
            Bench.same("N", disk.count(1), n);
            Bench.same("all 0", disk.disk(n - 1, 255), 0);
            Bench.refused("no block " + n, NoSuchElementException.class, () -> disk.disk(n, 0));
            disk.mount(2);
            Bench.same("FREE", disk.count(5), n - 4);
            Bench.same("COUNT", disk.count(8), 1);
        }
    }

    private static void formatRefused() {
        Bench.says("Promise 5", "IllegalArgumentException");
        Bench bench = withBoth();
        bench.write("f", "new", 0);
        bench.disk.flip(63, 0, 1, 500);
        int accesses = bench.disk.count(2);
        refusedAll("format", new int[] {0, 63, 1025}, bench.disk::format);
        Bench.same("mounted", bench.disk.count(3), 1);
        Bench.same("fresh", bench.disk.count(6), 4);
        Bench.same("planned", bench.disk.count(10), 1);
        Bench.same("accesses", bench.disk.count(2), accesses);
        Bench.same("what was not committed is there", bench.content("f"), "newt");
    }

    private static void formatDrops() {
        Bench.says("Promise 5", "A new DISK of n blocks, all 0; nothing is MOUNTED or planned "
            + "(what flip and power planned is dropped first; TAPE, RESULT and what image kept stay)");
        for (int k = 1; k <= 6; k++) {
            Bench bench = withBoth();
            bench.read("f", 0, 4);
            bench.disk.image(false);
            int kept = bench.disk.disk(5, 5);
            bench.disk.flip(0, 0, 1, k);
            bench.disk.flip(63, 0, 1, 0);
            bench.disk.power(k);
            bench.tape("tape");
            Bench.same("format", bench.disk.format(64), 5);
            Bench.same("accesses", bench.disk.count(2), 5);
            Bench.same("planned", bench.disk.count(10), 0);
            Bench.same("mounted", bench.disk.count(3), 0);
            Bench.same("all 0", bench.disk.disk(63, 0) + bench.disk.disk(5, 5) + bench.disk.disk(4, 0), 0);
            Bench.same("the tape", bench.disk.count(0), 4);
            Bench.same("the result", bench.result(), "text");
            bench.disk.end(0);
            Bench.same("no power fails, nothing is altered", bench.disk.mount(8), 1);
            Bench.same("nothing else is used", bench.disk.count(5), 60);
            Bench.same("the top is a directory", bench.told("", 0), 2);
            Bench.same("of size 0", bench.told("", 1), 0);
            bench.disk.image(true);
            Bench.same("what image kept", bench.disk.disk(5, 5), kept);
        }
        Bench.says("Promise 5", "not SEALED: the ACCESSES made");
        Bench bench = withBoth();
        bench.disk.flip(bench.disk.count(9), 0, 1, 0);
        bench.disk.mount(2);
        Bench.same("sealed", bench.disk.count(4), 1);
        Bench.same("format", bench.disk.format(1024), 5);
        Bench.same("not sealed", bench.disk.count(4), 0);
        Bench.same("ROOT", bench.disk.count(9), 3);
        Bench.same("COUNT was 0 before", bench.disk.mount(2), 1);
    }

    private static void mountArgument() {
        Bench.says("Promise 6", "IllegalArgumentException: c is not 2 .. 64");
        Bench bench = withBoth();
        int[] wrong = {LEAST, -2, -1, 0, 1, 65, 66, MOST};
        bench.write("f", "new", 0);
        refusedAll("mount", wrong, bench.disk::mount);
        Bench.same("mounted all the same", bench.disk.count(3), 1);
        Bench.same("with what was not committed", bench.content("f"), "newt");
        for (int c : new int[] {2, 3, 63, 64}) {
            Bench.same("mount(" + c + ")", bench.disk.mount(c), 2);
            Bench.same("content", bench.content("f"), "text");
            Bench.same("cache", bench.disk.count(7), Math.min(c, 5));
        }
    }

    private static void mountLeavesWhatWas() {
        Bench.says("Promise 6", "What is MOUNTED is so no more (what was not COMMITTED is lost)");
        Bench bench = withBoth();
        bench.write("f", "new", 0);
        Bench.same("mount", bench.disk.mount(8), 2);
        Bench.same("lost", bench.content("f"), "text");
        Bench.same("fresh", bench.disk.count(6), 0);
        bench.write("f", "new", 0);
        bench.disk.power(1);
        Bench.same("mount without power", bench.disk.mount(8), -2);
        Bench.same("is so no more", bench.disk.count(3), 0);
        Bench.same("is so no more", bench.told("f", 0), -3);
        Bench.same("mount", bench.disk.mount(8), 2);
        Bench.same("lost", bench.content("f"), "text");
        bench.disk.flip(bench.disk.count(9), 200, 8, 0);
        Bench.same("mount of what was altered", bench.disk.mount(8), -1);
        Bench.same("is so no more", bench.disk.count(3), 0);
    }

    private static void mountAnswers() {
        Bench.says("Promise 6", "ROOT is read and looked at as a POINTER's block, and all is MOUNTED "
            + "with an empty CACHE of c blocks (ROOT's own does not come to it): COUNT, 31 low bits");
        Bench bench = withBoth();
        Bench.same("COUNT", bench.disk.mount(8), 2);
        Bench.same("the cache", bench.disk.count(7), 0);
        bench.told("f", 0);
        Bench.same("the table, the entries", bench.disk.count(7), 4);
        Bench.same("one access", bench.spent(() -> bench.disk.mount(8)), 1);
        Bench.same("an empty cache", bench.disk.count(7), 0);
        Bench.same("FREE: the table, the entries, the file, ROOT are used", bench.disk.count(5), 64 - 6);
        Bench.says("Promise 6", "no DISK: -3; SEALED: -1");
        Bench.same("no disk", new LyingDisk().mount(2), -3);
        bench.disk.flip(bench.disk.count(9), 0, 1, 0);
        Bench.same("altered", bench.disk.mount(8), -1);
        bench.disk.flip(bench.disk.count(9), 0, 1, 0);
        int accesses = bench.disk.count(2);
        Bench.same("sealed", bench.disk.mount(8), -1);
        Bench.same("no access", bench.disk.count(2), accesses);
    }

    private static void off() {
        Bench.says("Promise 7", "Nothing is MOUNTED any more; what was not COMMITTED is lost");
        Bench bench = withBoth();
        bench.read("f", 0, 2);
        bench.write("f", "new", 0);
        bench.tape("f").disk.off();
        for (int what : new int[] {3, 5, 6, 7, 8}) {
            Bench.same("count(" + what + ")", bench.disk.count(what), 0);
        }
        Bench.same("the tape stays", bench.disk.count(0), 1);
        Bench.same("the result stays", bench.result(), "te");
        Bench.same("told", bench.disk.told(0), -3);
        bench.disk.off();
        Bench.same("again", bench.disk.count(3), 0);
        Bench.same("mount", bench.disk.mount(8), 2);
        Bench.same("lost", bench.content("f"), "text");
    }

    private static void makeSort() {
        Bench.says("Promise 8", "IllegalArgumentException: another sort");
        Bench bench = withBoth();
        refusedAll("make", new int[] {LEAST, -1, 0, 3, 257, 258, MOST}, bench.disk::make);
        Bench.same("nothing came", bench.names(""), "f=1 d=2");
        Bench.same("1", bench.make("one", 1), 3);
        Bench.same("2", bench.make("two", 2), 4);
        Bench.same("sort", bench.told("one", 0), 1);
        Bench.same("sort", bench.told("two", 0), 2);
        Bench.says("Promise 8", "a new, empty one there of sort 1 or 2");
        for (String name : new String[] {"one", "two"}) {
            Bench.same("size", bench.told(name, 1), 0);
            Bench.same("height", bench.told(name, 3), 0);
        }
        Bench.same("read", bench.read("one", 0, 10), 0);
        Bench.same("list", bench.list("two"), 0);
    }

    private static void makeNumber() {
        Bench.says("Promise 8", "first its INODE (the least that is free, from 0 on, is looked for), "
            + "then its ENTRY, as the last one: the INODE's number");
        Bench bench = Bench.mounted(64, 8);
        for (int i = 1; i <= 9; i++) {
            Bench.same("make", bench.make("f" + i, 1), i);
        }
        bench.remove("f8");
        bench.remove("f3");
        bench.remove("f5");
        Bench.same("the least", bench.make("a", 1), 3);
        Bench.same("the next", bench.make("b", 2), 5);
        Bench.same("the next", bench.make("b/c", 1), 8);
        Bench.same("the next", bench.make("b/d", 1), 10);
        Bench.same("the last entry", bench.names(""), "f1=1 f2=2 f9=9 f4=4 f7=7 f6=6 a=3 b=5");
        Bench.same("the last entry", bench.names("b"), "c=8 d=10");
        bench.disk.sync();
        bench.disk.mount(2);
        Bench.same("the least, from the disk", bench.make("e", 1), 11);
        bench.remove("f1");
        Bench.same("what was used before is empty", bench.make("g", 2), 1);
        Bench.same("what was used before is empty", bench.told("g", 1), 0);
    }

    private static void makeThere() {
        Bench.says("Promise 8", "-6: it is there");
        Bench bench = withBoth();
        bench.make("d/e", 1);
        for (int sort = 1; sort <= 2; sort++) {
            Bench.same("a file", bench.make("f", sort), -6);
            Bench.same("a directory", bench.make("d", sort), -6);
            Bench.same("the top", bench.make("", sort), -6);
            Bench.same("deeper", bench.make("d/e", sort), -6);
        }
        Bench.same("the same name elsewhere", bench.make("d/f", 1), 4);
        Bench.same("a name of which it is the beginning", bench.make("fa", 1), 5);
        Bench.same("another case", bench.make("F", 1), 6);
        Bench.same("below a file", bench.make("f/x", 1), -5);
        Bench.same("below nothing", bench.make("x/x", 1), -5);
    }

    private static void makeWithoutRoom() {
        Bench.says("Promise 8", "-10: no INODE is free, or the DIRECTORY has 64 ENTRIES");
        Bench bench = Bench.mounted(128, 8);
        bench.make("d", 2);
        for (int i = 2; i <= 63; i++) {
            bench.make("f" + i, 1);
        }
        Bench.same("63 entries", bench.make("f64", 1), 64);
        Bench.same("64 entries", bench.make("f65", 1), -10);
        Bench.same("64 entries", bench.make("f65", 2), -10);
        Bench.same("in another one", bench.make("d/f65", 2), 65);
        Bench.same("and deeper", bench.make("d/f65/x", 1), 66);
        bench.remove("f9");
        Bench.same("63 entries", bench.make("f65", 1), 9);
        Bench.same("64 entries", bench.make("f66", 1), -10);
    }

    private static void remove() {
        Bench.says("Promise 9", "it goes: first its TREE as by size 0, then its INODE becomes all zeros, "
            + "then its ENTRY goes: its INODE's number");
        Bench bench = withBoth();
        bench.write("f", Bench.pattern(300), 0);
        Bench.same("a file", bench.remove("f"), 1);
        Bench.same("it is not there", bench.told("f", 0), -5);
        Bench.same("it is not there", bench.remove("f"), -5);
        Bench.same("an empty directory", bench.remove("d"), 2);
        Bench.same("names", bench.names(""), "");
        bench.disk.sync();
        Bench.same("all but the table and ROOT is free", bench.disk.count(5), 60);
        Bench.same("below nothing", bench.remove("d/x"), -5);
        bench.make("f", 1);
        Bench.same("below a file", bench.remove("f/x"), -5);
        Bench.same("the new one is empty", bench.told("f", 1), 0);
        Bench.same("its bytes are not the old one's", bench.size("f", 3), 3);
        Bench.same("its bytes are not the old one's", bench.content("f"), "\0\0\0");
    }

    private static void removeInUse() {
        Bench.says("Promise 9", "-8: a DIRECTORY with ENTRIES, or the top");
        Bench bench = withBoth();
        Bench.same("the top with entries", bench.remove(""), -8);
        bench.make("d/e", 2);
        Bench.same("one entry", bench.remove("d"), -8);
        Bench.same("the entry", bench.remove("d/e"), 3);
        Bench.same("none", bench.remove("d"), 2);
        bench.remove("f");
        Bench.same("the top without entries", bench.remove(""), -8);
        Bench.same("it is there", bench.list(""), 0);
    }

    private static void moveArgument() {
        Bench.says("Promise 10", "IllegalArgumentException: n is not 0 .. the TAPE's length");
        Bench bench = withBoth();
        refusedAll("move of an empty tape", new int[] {LEAST, -1, 1, MOST}, bench.disk::move);
        Bench.same("0 of an empty tape: the top to the top", bench.disk.move(0), -7);
        bench.tape("fg");
        refusedAll("move of 2 bytes", new int[] {LEAST, -1, 3, MOST}, bench.disk::move);
        Bench.same("the tape", bench.disk.count(0), 2);
        Bench.same("2: 'fg' to the top", bench.disk.move(2), -5);
        Bench.same("0: the top to 'fg'", bench.tape("fg").disk.move(0), -7);
        Bench.same("1: 'f' to the top", bench.tape("f").disk.move(1), -6);
        Bench.same("1: 'f' to 'g'", bench.tape("fg").disk.move(1), 1);
        Bench.same("names", bench.names(""), "d=2 g=1");
    }

    private static void moveAnswers() {
        Bench.says("Promise 10", "the first is followed first; if it is not there the other one is not followed");
        Bench bench = withBoth();
        bench.make("d/e", 2);
        bench.disk.sync();
        bench.disk.mount(64);
        Bench.same("the table, the entries", bench.spent(() -> bench.move("n", "d/e/n")), 4);
        Bench.same("the entries of d", bench.spent(() -> bench.move("f", "d/e")), 1);
        Bench.says("Promise 10", "-6: the second is there; -7: it is the top, or would be inside of itself");
        Bench.same("a file", bench.move("d", "f"), -6);
        Bench.same("a directory", bench.move("f", "d"), -6);
        Bench.same("itself", bench.move("f", "f"), -6);
        Bench.same("the top", bench.move("f", ""), -6);
        Bench.same("the directory it is in", bench.move("d/e", "d"), -6);
        Bench.same("the top to a new place", bench.move("", "n"), -7);
        Bench.same("the top deeper", bench.move("", "d/n"), -7);
        Bench.same("right inside of itself", bench.move("d", "d/n"), -7);
        Bench.same("deeper inside of itself", bench.move("d", "d/e/n"), -7);
        Bench.same("inside of one inside", bench.move("d/e", "d/e/n"), -7);
        Bench.same("below a file", bench.move("d", "f/n"), -5);
        Bench.same("a file below itself", bench.move("f", "f/n"), -5);
        Bench.same("beside itself", bench.move("d/e", "d/n"), 3);
        Bench.same("up", bench.move("d/n", "n"), 3);
        Bench.same("down again", bench.move("n", "d/e"), 3);
        Bench.same("one directory into the other's place", bench.move("d/e", "e") + bench.move("d", "e/d"), 3 + 2);
        Bench.says("Promise 10", "first the ENTRY goes in the old DIRECTORY, then it is the last in the new one: "
            + "its INODE's number");
        Bench three = Bench.mounted(64, 8);
        three.make("a", 1);
        three.make("b", 1);
        three.make("c", 1);
        Bench.same("move", three.move("a", "x"), 1);
        Bench.same("the last one took its place", three.names(""), "c=3 b=2 x=1");
        three.move("x", "y");
        Bench.same("the last one", three.names(""), "c=3 b=2 y=1");
    }

    private static void moveDeep() {
        Bench.says("Promise 10", "-7: it is the top, or would be inside of itself");
        Bench bench = Bench.mounted(128, 8);
        String[] paths = new String[17];
        paths[1] = "d";
        for (int names = 1; names <= 15; names++) {
            Bench.same("make", bench.make(paths[names], 2), names);
            paths[names + 1] = paths[names] + "/d";
        }
        for (int names = 1; names <= 15; names++) {
            Bench.same(names + " names into themselves with 16", bench.move(paths[names], paths[16]), -7);
        }
        Bench.same("beside the last of 15", bench.move(paths[15], paths[14] + "/e"), 15);
        Bench.same("into it, with 16 names", bench.move(paths[14] + "/e", paths[14] + "/e/f"), -7);
        Bench.same("up", bench.move(paths[14] + "/e", "e"), 15);
        Bench.same("the others into it", bench.move("d", "e/d"), 1);
        Bench.same("which has 15 names again", bench.told("e/" + paths[14], 2), 14);
    }

    private static void moveWithoutRoom() {
        Bench.says("Promise 10", "-10: the new DIRECTORY has 64 ENTRIES (in the same one: 65)");
        Bench bench = Bench.mounted(128, 8);
        bench.make("d", 2);
        bench.make("a", 1);
        bench.make("b", 1);
        for (int i = 4; i <= 66; i++) {
            bench.make("d/f" + i, 1);
        }
        Bench.same("63 entries", bench.move("a", "d/a"), 2);
        Bench.same("64 entries", bench.move("b", "d/b"), -10);
        Bench.same("in the same one", bench.move("d/a", "d/b"), 2);
        Bench.same("still 64", bench.list("d"), 64);
        Bench.same("out of it", bench.move("d/b", "a"), 2);
        Bench.same("63 entries", bench.move("b", "d/b"), 3);
        Bench.same("out of the full one", bench.move("d/f66", "x"), 66);
        Bench.same("names", bench.names(""), "d=1 a=2 x=66");
    }

    private static void writeArguments() {
        Bench.says("Promise 11", "IllegalArgumentException: n is not 0 .. the TAPE's length, or at is below 0");
        Bench bench = withBoth();
        bench.tape("fx");
        refusedAll("write", new int[] {LEAST, -1, 3, MOST}, n -> bench.disk.write(n, 0));
        refusedAll("write at", new int[] {LEAST, -1}, at -> bench.disk.write(1, at));
        refusedAll("write of nothing at", new int[] {LEAST, -1}, at -> bench.disk.write(2, at));
        Bench.same("the tape", bench.disk.count(0), 2);
        Bench.same("1", bench.disk.write(1, 0), 4);
        Bench.same("content", bench.content("f"), "xext");
        Bench.same("2: no such file", bench.tape("fx").disk.write(2, 0), -5);
        Bench.same("0: the top", bench.tape("fx").disk.write(0, 0), -7);
        Bench.same("0 of an empty tape: the top", bench.disk.write(0, 0), -7);
        Bench.same("a directory", bench.write("d", "x", 0), -7);
        Bench.same("a directory and nothing to write", bench.write("d", "", 0), -7);
    }

    private static void writeBeyond() {
        Bench.says("Promise 11", "-10: beyond 65,536");
        Bench bench = Bench.mounted(1024, 8);
        bench.make("f", 1);
        Bench.same("its first byte beyond", bench.write("f", "x", 65536), -10);
        Bench.same("its last byte beyond", bench.write("f", "xy", 65535), -10);
        Bench.same("a wrap-around", bench.write("f", "xy", MOST), -10);
        Bench.same("a wrap-around", bench.write("f", "x", MOST), -10);
        Bench.same("its last byte beyond", bench.write("f", Bench.pattern(257), 65280), -10);
        Bench.same("nothing changed", bench.told("f", 1), 0);
        Bench.same("the last place", bench.write("f", "x", 65535), 65536);
        Bench.same("the last block", bench.write("f", Bench.pattern(256), 65280), 65536);
        Bench.same("over the last place", bench.write("f", "xy", 65534), 65536);
        Bench.same("beyond", bench.write("f", "xyz", 65534), -10);
        bench.read("f", 65533, 10);
        Bench.same("the last bytes", bench.result().substring(1), "xy");
        Bench.same("how many", bench.disk.count(11), 3);
    }

    private static void writeNothing() {
        Bench.says("Promise 11", "Nothing to write: its size, whatever at is and however little is FREE");
        Bench bench = withBoth();
        for (int at : new int[] {0, 4, 5, 65535, 65536, 65537, MOST}) {
            Bench.same("at " + at, bench.write("f", "", at), 4);
        }
        Bench.same("nothing is fresh", bench.disk.count(6), 0);
        Bench.same("not there", bench.write("n", "", MOST), -5);
    }

    private static void writeGrows() {
        Bench.says("Promise 11", "the others are written from at on (first the size grows, if need be): its size");
        Bench bench = withBoth();
        Bench.same("inside", bench.write("f", "A", 3), 4);
        Bench.same("to the end", bench.write("f", "BC", 2), 4);
        Bench.same("over the end", bench.write("f", "DE", 3), 5);
        Bench.same("at the end", bench.write("f", "F", 5), 6);
        Bench.same("behind the end", bench.write("f", "G", 7), 8);
        Bench.same("content", bench.content("f"), "teBDEF\0G");
        Bench.same("to the end of the block", bench.write("f", "H", 255), 256);
        Bench.same("height", bench.told("f", 3), 0);
        Bench.same("over it", bench.write("f", "IJ", 255), 257);
        Bench.same("height", bench.told("f", 3), 1);
        bench.read("f", 254, 9);
        Bench.same("content", bench.result(), "\0IJ");
    }

    private static void sizeArgument() {
        Bench.says("Promise 12", "its size becomes n ... : n. -7: a DIRECTORY; -10: n is above 65,536. "
            + "IllegalArgumentException: n is below 0");
        Bench bench = Bench.mounted(1024, 8);
        bench.make("f", 1);
        bench.make("d", 2);
        bench.tape("f");
        refusedAll("size", new int[] {LEAST, -1}, bench.disk::size);
        Bench.same("0", bench.disk.size(0), 0);
        Bench.same("65,536", bench.size("f", 65536), 65536);
        Bench.same("size", bench.told("f", 1), 65536);
        Bench.same("65,537", bench.size("f", 65537), -10);
        Bench.same("much more", bench.size("f", MOST), -10);
        Bench.same("65,535", bench.size("f", 65535), 65535);
        Bench.same("1", bench.size("f", 1), 1);
        Bench.same("0", bench.size("f", 0), 0);
        Bench.same("a directory", bench.size("d", 0), -7);
        Bench.same("a directory", bench.size("", 65537), -7);
    }

    private static void sizeSame() {
        Bench.says("Promise 12", "the same: nothing changes, however little is FREE");
        Bench bench = withBoth();
        Bench.same("the same", bench.size("f", 4), 4);
        Bench.same("nothing is fresh", bench.disk.count(6), 0);
        Bench.same("one more", bench.size("f", 5), 5);
        Bench.same("fresh", bench.disk.count(6), 3);
        Bench.same("content", bench.content("f"), "text\0");
        Bench.same("one less", bench.size("f", 3), 3);
        Bench.same("content", bench.content("f"), "tex");
        Bench.same("again", bench.size("f", 4), 4);
        Bench.same("the byte behind became 0", bench.content("f"), "tex\0");
    }

    private static void readArguments() {
        Bench.says("Promise 13", "its bytes from there on, at most n, 0 .. 4096, are the RESULT: how many ... . "
            + "-7: a DIRECTORY. IllegalArgumentException: another n, or at is below 0");
        Bench bench = withBoth();
        bench.size("f", 4100);
        bench.tape("f");
        refusedAll("read of n", new int[] {LEAST, -1, 4097, MOST}, n -> bench.disk.read(0, n));
        refusedAll("read at", new int[] {LEAST, -1}, at -> bench.disk.read(at, 0));
        Bench.same("0 bytes", bench.disk.read(0, 0), 0);
        Bench.same("the result", bench.disk.count(11), 0);
        Bench.same("1 byte", bench.read("f", 0, 1), 1);
        Bench.same("4095 bytes", bench.read("f", 0, 4095), 4095);
        Bench.same("4096 bytes", bench.read("f", 0, 4096), 4096);
        Bench.same("the result", bench.disk.count(11), 4096);
        Bench.same("up to the end", bench.read("f", 4, 4096), 4096);
        Bench.same("up to the end", bench.read("f", 5, 4096), 4095);
        Bench.same("a directory", bench.read("d", 0, 0), -7);
        Bench.same("the top", bench.read("", 0, 1), -7);
        Bench.same("not there", bench.read("n", 0, 1), -5);
        Bench.same("below a file", bench.read("f/n", 0, 1), -5);
        Bench.same("the result stays", bench.disk.count(11), 4095);
    }

    private static void readFromTheEnd() {
        Bench.says("Promise 13", "how many (0 from the end on)");
        Bench bench = withBoth();
        int[] places = {3, 4, 5, 255, 256, 65535, 65536, 65537, MOST - 4096, MOST - 4095, MOST};
        for (int at : places) {
            for (int n : new int[] {0, 1, 4096}) {
                int due = at == 3 && n > 0 ? 1 : 0;
                Bench.same("read(" + at + ", " + n + ")", bench.read("f", at, n), due);
                Bench.same("the result", bench.disk.count(11), due);
            }
        }
        Bench.same("all", bench.content("f"), "text");
        bench.make("e", 1);
        Bench.same("an empty file", bench.read("e", 0, 4096), 0);
        Bench.same("the result", bench.disk.count(11), 0);
    }

    private static void list() {
        Bench.says("Promise 14", "its ENTRIES, 32 bytes each, are the RESULT: how many ENTRIES. -7: a FILE");
        Bench bench = withBoth();
        Bench.same("two", bench.list(""), 2);
        Bench.same("the result", bench.disk.count(11), 64);
        Bench.same("a file", bench.list("f"), -7);
        Bench.same("below a file", bench.list("f/n"), -5);
        Bench.same("not there", bench.list("n"), -5);
        Bench.same("the result stays", bench.disk.count(11), 64);
        Bench.same("none", bench.list("d"), 0);
        Bench.same("the result", bench.disk.count(11), 0);
        Bench full = Bench.mounted(128, 8);
        for (int i = 1; i <= 64; i++) {
            full.make("f" + i, 1);
        }
        Bench.same("64", full.list(""), 64);
        Bench.same("the result", full.disk.count(11), 2048);
        Bench.same("the last number", full.disk.result(32 * 63 + 1), 64);
        Bench.same("the last name", full.disk.result(32 * 63 + 4), '6');
        Bench.refused("behind", IndexOutOfBoundsException.class, () -> full.disk.result(2048));
    }

    private static void told() {
        Bench.says("Promise 15", "what 0 sort, 1 size, 2 INODE's number, 3 height. IllegalArgumentException: another what");
        Bench bench = withBoth();
        bench.size("f", 257);
        refusedAll("told", new int[] {LEAST, -1, 4, MOST}, bench.disk::told);
        String[] paths = {"", "f", "d"};
        int[][] due = {{2, 64, 0, 0}, {1, 257, 1, 1}, {2, 0, 2, 0}};
        for (int i = 0; i < 3; i++) {
            for (int what = 0; what <= 3; what++) {
                Bench.same("told(" + what + ") of '" + paths[i] + "'", bench.told(paths[i], what), due[i][what]);
            }
        }
        for (int what = 0; what <= 3; what++) {
            Bench.same("not there", bench.told("n", what), -5);
            Bench.same("below a file", bench.told("f/n", what), -5);
        }
    }

    private static void sync() {
        Bench.says("Promise 16", "COMMIT: COUNT, 31 low bits");
        Bench bench = new Bench();
        Bench.same("no disk", bench.disk.sync(), -3);
        bench.disk.format(64);
        Bench.same("not mounted", bench.disk.sync(), -3);
        bench.disk.mount(2);
        Bench.same("nothing to commit", bench.disk.sync(), 1);
        for (int i = 2; i <= 5; i++) {
            bench.make("f" + i, 1);
            Bench.same("COUNT before", bench.disk.count(8), i - 1);
            Bench.same("sync", bench.disk.sync(), i);
            Bench.same("again", bench.disk.sync(), i);
            Bench.same("COUNT", bench.disk.count(8), i);
        }
        Bench.same("mount", bench.disk.mount(2), 5);
    }
}
