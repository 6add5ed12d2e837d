/** Promises 8 to 10, 14 and 15: make, remove, move, list, told. */
public final class NamesTest {
    private NamesTest() {
    }

    public static void main(String[] args) {
        make();
        makeWrong();
        paths();
        limitOfEntries();
        limitOfInodes();
        remove();
        removeGivesBlocksBack();
        move();
        moveWrong();
        moveIntoFull();
        list();
        told();
        fullDisk();
        Bench.finish("NamesTest");
    }

    private static void make() {
        Bench bench = Bench.mounted(128, 4);
        Bench.same("make a file", bench.make("a", 1), 1);
        Bench.same("make a directory", bench.make("d", 2), 2);
        Bench.same("make in it", bench.make("d/a", 2), 3);
        Bench.same("make deeper", bench.make("d/a/a", 1), 4);
        Bench.same("names", bench.names(""), "a=1 d=2");
        Bench.same("names", bench.names("d/a"), "a=4");
        Bench.same("a new file is empty", bench.told("d/a/a", 1), 0);
        Bench.same("remove", bench.remove("a"), 1);
        Bench.same("the least number that is free", bench.make("b", 1), 1);
        Bench.same("its entry is the last", bench.names(""), "d=2 b=1");
        bench.disk.sync();
        bench.disk.mount(2);
        Bench.same("names", bench.names("") + " " + bench.names("d"), "d=2 b=1 a=3");
    }

    private static void makeWrong() {
        Bench bench = Bench.mounted(128, 4);
        bench.make("f", 1);
        bench.make("d", 2);
        int fresh = bench.disk.count(6);
        Bench.same("it is there", bench.make("f", 1), -6);
        Bench.same("it is there", bench.make("d", 1), -6);
        Bench.same("the top is there", bench.make("", 2), -6);
        Bench.same("no such directory", bench.make("x/y", 1), -5);
        Bench.same("no directory", bench.make("f/y", 1), -5);
        Bench.same("no such directory deeper", bench.make("d/y/z", 1), -5);
        for (int sort : new int[] {0, 3, -1, 257}) {
            Bench.refused("make(" + sort + ")", IllegalArgumentException.class, () -> bench.disk.make(sort));
        }
        Bench.same("nothing has changed", bench.disk.count(6), fresh);
        Bench.same("nothing has changed", bench.names("") + bench.names("d"), "f=1 d=2");
    }

    private static void paths() {
        Bench bench = Bench.mounted(128, 4);
        String longest = "n".repeat(29);
        for (String wrong : new String[] {"/", "/a", "a/", "a//b", "n" + longest, "a/" + longest + "n", "\0", "a\0",
            "a" + "/a".repeat(16)}) {
            Bench.same("no path '" + wrong + "'", bench.make(wrong, 1), -4);
            Bench.same("no path '" + wrong + "'", bench.told(wrong, 0), -4);
        }
        Bench.same("29 bytes", bench.make(longest, 1), 1);
        Bench.same("29 bytes", bench.names(""), longest + "=1");
        Bench.same("a name with others' bytes before it", bench.make("n", 1), 2);
        Bench.same("bytes above 127", bench.make("\u0080\u00ff .", 1), 3);
        Bench.same("bytes above 127", bench.told("\u0080\u00ff .", 2), 3);
        Bench.same("16 names", bench.told("a" + "/a".repeat(15), 0), -5);
        StringBuilder deep = new StringBuilder("d");
        for (int i = 1; i <= 16; i++) {
            Bench.same("make deep " + i, bench.make(deep.toString(), 2), 3 + i);
            deep.append("/d");
        }
        Bench.same("deeper than any path", bench.make(deep.toString(), 1), -4);
        bench.disk.off();
        Bench.same("-3 comes before -4", bench.told("/", 0), -3);
    }

    private static void limitOfEntries() {
        Bench bench = Bench.mounted(256, 2);
        for (int i = 1; i <= 64; i++) {
            bench.make("f" + i, 1);
        }
        Bench.same("entries", bench.list(""), 64);
        Bench.same("size", bench.told("", 1), 2048);
        Bench.same("height", bench.told("", 3), 2);
        Bench.same("the directory has 64 entries", bench.make("x", 1), -10);
        Bench.same("-6 comes before -10", bench.make("f64", 1), -6);
        Bench.same("a move in the same one", bench.move("f1", "x"), 1);
        Bench.same("entries", bench.list(""), 64);
        Bench.same("remove", bench.remove("f30"), 30);
        Bench.same("height", bench.told("", 3), 2);
        Bench.same("room again", bench.make("y", 1), 30);
        for (int i = 57; i <= 64; i++) {
            bench.remove("f" + i);
        }
        Bench.same("size", bench.told("", 1), 1792);
        Bench.same("height", bench.told("", 3), 1);
    }

    private static void limitOfInodes() {
        Bench bench = Bench.mounted(256, 8);
        bench.make("d", 2);
        for (int i = 1; i <= 63; i++) {
            bench.make("" + i, 1);
        }
        for (int i = 1; i <= 62; i++) {
            bench.make("d/" + i, 1);
        }
        Bench.same("the last inode", bench.make("d/x", 1), 127);
        Bench.same("no inode is free", bench.make("d/y", 1), -10);
        Bench.same("entries", bench.list("d"), 63);
        Bench.same("remove", bench.remove("d/9"), 73);
        Bench.same("the inode that is free", bench.make("d/y", 2), 73);
    }

    private static void remove() {
        Bench bench = Bench.mounted(128, 4);
        bench.make("a", 1);
        bench.make("b", 1);
        bench.make("c", 1);
        bench.make("d", 2);
        bench.make("d/e", 1);
        bench.write("a", Bench.pattern(600), 0);
        Bench.same("it is not there", bench.remove("x"), -5);
        Bench.same("nor is this", bench.remove("a/x"), -5);
        Bench.same("the top", bench.remove(""), -8);
        Bench.same("a directory with entries", bench.remove("d"), -8);
        Bench.same("remove", bench.remove("a"), 1);
        Bench.same("the last entry takes its place", bench.names(""), "d=4 b=2 c=3");
        Bench.same("size", bench.told("", 1), 96);
        Bench.same("it is not there any more", bench.told("a", 0), -5);
        Bench.same("remove the last", bench.remove("c"), 3);
        Bench.same("names", bench.names(""), "d=4 b=2");
        Bench.same("remove in a directory", bench.remove("d/e"), 5);
        Bench.same("remove an empty directory", bench.remove("d"), 4);
        Bench.same("remove all", bench.remove("b"), 2);
        Bench.same("names", bench.names(""), "");
        Bench.same("size", bench.told("", 1), 0);
    }

    private static void removeGivesBlocksBack() {
        Bench bench = Bench.mounted(64, 4);
        bench.make("a", 1);
        bench.write("a", Bench.pattern(1000), 1500);
        bench.disk.sync();
        int free = bench.disk.count(5);
        bench.remove("a");
        Bench.holds("committed blocks are not free yet", bench.disk.count(5) < free);
        bench.disk.sync();
        Bench.same("but after the commit they are", bench.disk.count(5), 60);
    }

    private static void move() {
        Bench bench = Bench.mounted(128, 4);
        bench.make("a", 1);
        bench.make("b", 1);
        bench.make("d", 2);
        bench.make("d/e", 2);
        bench.write("a", "hello", 0);
        Bench.same("a new name", bench.move("a", "c"), 1);
        Bench.same("the last one goes to its place first", bench.names(""), "d=3 b=2 c=1");
        Bench.same("into a directory", bench.move("c", "d/e/c"), 1);
        Bench.same("names", bench.names("") + " " + bench.names("d/e"), "d=3 b=2 c=1");
        Bench.same("what it holds", bench.content("d/e/c"), "hello");
        Bench.same("a directory", bench.move("d/e", "e"), 4);
        Bench.same("names", bench.names("") + "; " + bench.names("d") + "; " + bench.names("e"), "d=3 b=2 e=4; ; c=1");
        Bench.same("one directory into another", bench.move("d", "e/d"), 3);
        Bench.same("names", bench.names("") + "; " + bench.names("e"), "e=4 b=2; c=1 d=3");
        bench.disk.sync();
        bench.disk.mount(2);
        Bench.same("what it holds", bench.content("e/c"), "hello");
    }

    private static void moveWrong() {
        Bench bench = Bench.mounted(128, 4);
        bench.make("a", 1);
        bench.make("d", 2);
        bench.make("d/e", 2);
        Bench.same("the first is no path", bench.move("/", "b"), -4);
        Bench.same("the second is no path", bench.move("x", "b/"), -4);
        Bench.same("the first is not there", bench.move("x", "b"), -5);
        Bench.same("the second's directory is not there", bench.move("a", "x/b"), -5);
        Bench.same("the second's directory is a file", bench.move("d", "a/b"), -5);
        Bench.same("the second is there", bench.move("a", "d"), -6);
        Bench.same("the second is the same", bench.move("a", "a"), -6);
        Bench.same("the second is the top", bench.move("a", ""), -6);
        Bench.same("the first is the top", bench.move("", "b"), -7);
        Bench.same("-7 comes before -6", bench.move("", "a"), -7);
        Bench.same("-5 comes before -7", bench.move("", "x/b"), -5);
        Bench.same("into itself", bench.move("d", "d/x"), -7);
        Bench.same("into itself, and there", bench.move("d", "d/e"), -7);
        Bench.same("deeper into itself", bench.move("d", "d/e/x"), -7);
        Bench.same("into itself, and not there", bench.move("d", "d/x/y"), -5);
        Bench.same("up is not into itself", bench.move("d/e", "e"), 3);
        bench.tape("abc");
        Bench.refused("move(-1)", IllegalArgumentException.class, () -> bench.disk.move(-1));
        Bench.refused("move(4)", IllegalArgumentException.class, () -> bench.disk.move(4));
        Bench.same("what throws leaves the tape", bench.disk.count(0), 3);
    }

    private static void moveIntoFull() {
        Bench bench = Bench.mounted(256, 4);
        bench.make("d", 2);
        bench.make("a", 1);
        for (int i = 0; i < 64; i++) {
            bench.make("d/" + i, 1);
        }
        Bench.same("the new directory has 64 entries", bench.move("a", "d/a"), -10);
        Bench.same("-6 comes before -10", bench.move("a", "d/5"), -6);
        Bench.same("in the same one", bench.move("d/5", "d/x"), 8);
        Bench.same("out of it", bench.move("d/x", "x"), 8);
        Bench.same("now there is room", bench.move("a", "d/a"), 2);
    }

    private static void list() {
        Bench bench = Bench.mounted(128, 4);
        Bench.same("an empty one", bench.list(""), 0);
        Bench.same("its result", bench.disk.count(11), 0);
        bench.make("ab", 1);
        bench.make("d", 2);
        Bench.same("entries", bench.list(""), 2);
        Bench.same("result", bench.disk.count(11), 64);
        Bench.same("result", bench.result(), "\0\u0001\u0002ab" + "\0".repeat(27) + "\0\u0002\u0001d" + "\0".repeat(28));
        Bench.same("a file", bench.list("ab"), -7);
        Bench.same("not there", bench.list("x"), -5);
        Bench.same("the result stays", bench.disk.count(11), 64);
        Bench.same("an empty one", bench.list("d"), 0);
        Bench.same("its result", bench.disk.count(11), 0);
    }

    private static void told() {
        Bench bench = Bench.mounted(128, 4);
        bench.make("d", 2);
        bench.make("d/f", 1);
        bench.size("d/f", 1793);
        String[] paths = {"", "d", "d/f"};
        int[][] due = {{2, 32, 0, 0}, {2, 32, 1, 0}, {1, 1793, 2, 2}};
        for (int i = 0; i < 3; i++) {
            for (int what = 0; what < 4; what++) {
                Bench.same("told(" + what + ") of '" + paths[i] + "'", bench.told(paths[i], what), due[i][what]);
            }
        }
        Bench.same("not there", bench.told("x", 0), -5);
        Bench.same("below a file", bench.told("d/f/x", 0), -5);
        Bench.refused("told(-1)", IllegalArgumentException.class, () -> bench.disk.told(-1));
        Bench.refused("told(4)", IllegalArgumentException.class, () -> bench.disk.told(4));
    }

    private static void fullDisk() {
        Bench bench = Bench.mounted(64, 4);
        bench.make("a", 1);
        bench.make("d", 2);
        for (int i = 0; bench.disk.count(5) >= 26; i++) {
            Bench.same("write", bench.write("a", "x", 256 * i), 256 * i + 1);
        }
        Bench.same("free", bench.disk.count(5), 25);
        Bench.same("make with 25", bench.make("b", 1), 3);
        int free = bench.disk.count(5);
        Bench.same("nothing new was taken", free, 25);
        Bench.same("a directory's first entry takes a block", bench.make("d/x", 2), 4);
        Bench.same("free", bench.disk.count(5), 23 - (free - 25));
        Bench.same("make when full", bench.make("c", 1), -9);
        Bench.same("-6 comes before -9", bench.make("a", 1), -6);
        Bench.same("-5 comes before -9", bench.remove("x"), -5);
        Bench.same("-8 comes before -9", bench.remove("d"), -8);
        Bench.same("remove when full", bench.remove("b"), -9);
        Bench.same("-7 comes before -9", bench.move("d", "d/y"), -7);
        Bench.same("move when full", bench.move("b", "c"), -9);
        Bench.same("told is for ever", bench.told("a", 0), 1);
        Bench.same("list is for ever", bench.names(""), "a=1 d=2 b=3");
        Bench.same("sync is for ever", bench.disk.sync(), 2);
    }
}
