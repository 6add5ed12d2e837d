/** Promises 11 to 13 and 17: write, size, read, result. */
public final class BytesTest {
    private BytesTest() {
    }

    public static void main(String[] args) {
        write();
        writeWrong();
        writeWhenFull();
        heights();
        shrink();
        shrinkFreesNodes();
        sizeWrong();
        read();
        result();
        againstPlainBytes();
        Bench.finish("BytesTest");
    }

    private static void write() {
        Bench bench = Bench.mounted(128, 4);
        bench.make("a", 1);
        Bench.same("write", bench.write("a", "hello", 0), 5);
        Bench.same("write over it", bench.write("a", "EL", 1), 5);
        Bench.same("content", bench.content("a"), "hELlo");
        Bench.same("write behind the end", bench.write("a", "x", 8), 9);
        Bench.same("zeros between", bench.content("a"), "hELlo\0\0\0x");
        Bench.same("over the edge of a block", bench.write("a", "abcd", 254), 258);
        Bench.same("read", bench.read("a", 252, 10), 6);
        Bench.same("content", bench.result(), "\0\0abcd");
        Bench.same("nothing to write", bench.write("a", "", 1000000), 258);
        Bench.same("to the last byte", bench.write("a", "z", 65535), 65536);
        Bench.same("read", bench.read("a", 65530, 4096), 6);
        Bench.same("content", bench.result(), "\0\0\0\0\0z");
        bench.disk.sync();
        bench.disk.mount(2);
        Bench.same("read", bench.read("a", 0, 260), 260);
        Bench.same("content", bench.result(0, 9), "hELlo\0\0\0x");
        Bench.same("content", bench.result(253, 260), "\0abcd\0\0");
    }

    private static void writeWrong() {
        Bench bench = Bench.mounted(128, 4);
        bench.make("a", 1);
        bench.make("d", 2);
        Bench.same("no path", bench.write("a/", "x", 0), -4);
        Bench.same("not there", bench.write("b", "x", 0), -5);
        Bench.same("a directory", bench.write("d", "x", 0), -7);
        Bench.same("the top", bench.write("", "x", 0), -7);
        Bench.same("-7 comes before -10", bench.write("d", "x", 65536), -7);
        Bench.same("a directory, and nothing to write", bench.write("d", "", 0), -7);
        Bench.same("beyond", bench.write("a", "x", 65536), -10);
        Bench.same("beyond", bench.write("a", "xy", 65535), -10);
        Bench.same("far beyond", bench.write("a", "xy", Integer.MAX_VALUE), -10);
        Bench.same("size", bench.told("a", 1), 0);
        bench.tape("ax");
        Bench.refused("write(-1, 0)", IllegalArgumentException.class, () -> bench.disk.write(-1, 0));
        Bench.refused("write(3, 0)", IllegalArgumentException.class, () -> bench.disk.write(3, 0));
        Bench.refused("write(1, -1)", IllegalArgumentException.class, () -> bench.disk.write(1, -1));
        Bench.same("write(2, 0): a name and nothing to write", bench.disk.write(2, 0), -5);
    }

    private static Bench withFree59() {
        Bench bench = Bench.mounted(64, 4);
        bench.make("a", 1);
        bench.disk.sync();
        Bench.same("FREE", bench.disk.count(5), 59);
        return bench;
    }

    private static void writeWhenFull() {
        Bench few = withFree59();
        Bench.same("18 blocks need 60", few.write("a", Bench.pattern(256 * 17 + 1), 0), -9);
        Bench.same("18 blocks need 60", few.write("a", Bench.pattern(256 * 16 + 2), 255), -9);
        Bench.same("nothing has changed", few.disk.count(6), 0);
        Bench bench = withFree59();
        Bench.same("17 blocks need 58", bench.write("a", Bench.pattern(256 * 17), 0), 4352);
        Bench.same("-10 comes before -9", bench.write("a", Bench.pattern(256), 65400), -10);
        while (bench.disk.count(5) >= 26) {
            bench.write("a", "x", bench.told("a", 1) + 255);
        }
        Bench.same("nothing to write, however little is free", bench.write("a", "", 0), bench.told("a", 1));
        Bench.same("one block needs 26", bench.write("a", "x", 0), -9);
        Bench.same("the same size, however little is free", bench.size("a", bench.told("a", 1)), bench.told("a", 1));
        Bench.same("another size", bench.size("a", 0), -9);
    }

    private static void heights() {
        int[] sizes = {0, 1, 256, 257, 1792, 1793, 12544, 12545, 65536, 12545, 12544, 1793, 1792, 257, 256, 1, 0};
        int[] due = {0, 0, 0, 1, 1, 2, 2, 3, 3, 3, 2, 2, 1, 1, 0, 0, 0};
        Bench hollow = Bench.mounted(1024, 4);
        Bench filled = Bench.mounted(1024, 4);
        hollow.make("a", 1);
        filled.make("a", 1);
        filled.write("a", "!", 0);
        for (int i = 0; i < sizes.length; i++) {
            Bench.same("size", hollow.size("a", sizes[i]), sizes[i]);
            Bench.same("height for " + sizes[i], hollow.told("a", 3), due[i]);
            Bench.same("nothing is taken for zeros", hollow.disk.count(6), 4);
            filled.size("a", Math.max(1, sizes[i]));
            Bench.same("height for " + sizes[i], filled.told("a", 3), due[i]);
            Bench.same("a node for each level", filled.disk.count(6), 5 + due[i]);
            Bench.same("its first byte", filled.read("a", 0, 1), 1);
            Bench.same("its first byte", filled.disk.result(0), '!');
        }
    }

    private static void shrink() {
        Bench bench = Bench.mounted(256, 4);
        bench.make("a", 1);
        bench.write("a", Bench.pattern(3000), 0);
        bench.disk.sync();
        Bench.same("shrink", bench.size("a", 700), 700);
        Bench.same("grow again", bench.size("a", 1000), 1000);
        bench.read("a", 690, 4096);
        for (int i = 690; i < 1000; i++) {
            Bench.same("byte " + i, bench.disk.result(i - 690), i < 700 ? Bench.pattern(i + 1)[i] & 255 : 0);
        }
        Bench.same("to a whole block", bench.size("a", 512), 512);
        Bench.same("read", bench.read("a", 511, 9), 1);
        Bench.same("the last byte", bench.disk.result(0), Bench.pattern(512)[511] & 255);
    }

    private static void shrinkFreesNodes() {
        Bench bench = Bench.mounted(1024, 4);
        bench.make("a", 1);
        for (int at : new int[] {0, 2000, 13000, 65535}) {
            bench.write("a", "x", at);
        }
        Bench.same("4 data blocks and 8 nodes", bench.disk.count(6), 4 + 4 + 8);
        Bench.same("shrink", bench.size("a", 65535), 65535);
        Bench.same("the last block is there, but zero", bench.disk.count(6), 16);
        Bench.same("shrink", bench.size("a", 65280), 65280);
        Bench.same("the last block and two nodes are gone", bench.disk.count(6), 13);
        Bench.same("shrink", bench.size("a", 13000), 13000);
        Bench.same("its byte is gone, its block is not", bench.disk.count(6), 13);
        Bench.same("shrink", bench.size("a", 12800), 12800);
        Bench.same("that block, and its two nodes", bench.disk.count(6), 10);
        Bench.same("shrink", bench.size("a", 2001), 2001);
        Bench.same("the top node", bench.disk.count(6), 9);
        Bench.same("shrink", bench.size("a", 1), 1);
        Bench.same("one block is left", bench.disk.count(6), 5);
        Bench.same("shrink", bench.size("a", 0), 0);
        Bench.same("nothing is left", bench.disk.count(6), 4);
        bench.disk.sync();
        Bench.same("FREE", bench.disk.count(5), 1024 - 5);
    }

    private static void sizeWrong() {
        Bench bench = Bench.mounted(64, 4);
        bench.make("a", 1);
        bench.make("d", 2);
        Bench.same("no path", bench.size("/a", 1), -4);
        Bench.same("not there", bench.size("b", 1), -5);
        Bench.same("a directory", bench.size("d", 1), -7);
        Bench.same("-7 comes before -10", bench.size("", 65537), -7);
        Bench.same("too much", bench.size("a", 65537), -10);
        Bench.same("too much", bench.size("a", Integer.MAX_VALUE), -10);
        Bench.same("-10 comes before -9, and this is -9", bench.size("a", 65536), -9);
        Bench.refused("size(-1)", IllegalArgumentException.class, () -> bench.disk.size(-1));
        bench.disk.sync();
        Bench.same("FREE", bench.disk.count(5), 59);
        Bench.same("18 blocks need 60", bench.size("a", 256 * 17 + 1), -9);
        Bench.same("17 blocks need 58", bench.size("a", 256 * 17), 4352);
        Bench.same("the same", bench.size("a", 4352), 4352);
        int fresh = bench.disk.count(6);
        Bench.same("fresh: the table alone", fresh, 3);
    }

    private static void read() {
        Bench bench = Bench.mounted(128, 4);
        bench.make("a", 1);
        bench.make("d", 2);
        Bench.same("an empty file", bench.read("a", 0, 10), 0);
        bench.write("a", Bench.pattern(1000), 0);
        Bench.same("read", bench.read("a", 0, 4096), 1000);
        Bench.same("read some", bench.read("a", 250, 10), 10);
        for (int i = 0; i < 10; i++) {
            Bench.same("byte " + i, bench.disk.result(i), Bench.pattern(1000)[250 + i] & 255);
        }
        Bench.same("read none", bench.read("a", 5, 0), 0);
        Bench.same("the last byte", bench.read("a", 999, 4096), 1);
        Bench.same("from the end on", bench.read("a", 1000, 1), 0);
        Bench.same("its result", bench.disk.count(11), 0);
        Bench.same("far behind the end", bench.read("a", Integer.MAX_VALUE, 4096), 0);
        Bench.same("a directory", bench.read("d", 0, 1), -7);
        Bench.same("not there", bench.read("x", 0, 1), -5);
        Bench.same("no path", bench.read("a/", 0, 1), -4);
        bench.tape("a");
        Bench.refused("read(-1, 1)", IllegalArgumentException.class, () -> bench.disk.read(-1, 1));
        Bench.refused("read(0, -1)", IllegalArgumentException.class, () -> bench.disk.read(0, -1));
        Bench.refused("read(0, 4097)", IllegalArgumentException.class, () -> bench.disk.read(0, 4097));
        bench.disk.end(0);
        Bench.same("write", bench.write("a", "z", 5000), 5001);
        Bench.same("4096 at the most", bench.read("a", 905, 4096), 4096);
        Bench.same("the last byte", bench.disk.result(4095), 'z');
    }

    private static void result() {
        Bench bench = Bench.mounted(128, 4);
        bench.make("a", 1);
        bench.write("a", "\u00ffb", 0);
        bench.read("a", 0, 9);
        Bench.same("result(0)", bench.disk.result(0), 255);
        Bench.same("result(1)", bench.disk.result(1), 'b');
        Bench.refused("result(2)", IndexOutOfBoundsException.class, () -> bench.disk.result(2));
        Bench.refused("result(-1)", IndexOutOfBoundsException.class, () -> bench.disk.result(-1));
        bench.write("a", "c", 0);
        bench.told("a", 0);
        Bench.same("it stays", bench.result(), "\u00ffb");
        Bench.same("an answer below 0", bench.read("b", 0, 1), -5);
        Bench.same("it stays", bench.result(), "\u00ffb");
        bench.disk.sync();
        bench.disk.mount(2);
        bench.disk.power(5);
        Bench.same("power fails when the last block is read", bench.read("a", 0, 1), -2);
        Bench.same("it stays", bench.result(), "\u00ffb");
        bench.disk.mount(2);
        Bench.same("read", bench.read("a", 0, 1), 1);
        Bench.same("the next one", bench.result(), "c");
    }

    /** The same run on new objects, each of which is asked for some of the bytes. */
    private static void againstPlainBytes() {
        for (int part = 0; part < 40; part++) {
            againstPlainBytes(part);
        }
    }

    /** Many writes and sizes, compared with an array that has the same done to it. */
    private static void againstPlainBytes(int part) {
        Bench bench = Bench.mounted(512, 5);
        bench.make("a", 1);
        byte[] due = new byte[0];
        int at = 0;
        for (int i = 1; i <= 60; i++) {
            at = (at * 31 + 977 * i) % 20000;
            if (i % 4 == 0) {
                due = java.util.Arrays.copyOf(due, at);
                Bench.same("size", bench.size("a", at), at);
            } else {
                byte[] bytes = Bench.pattern(i);
                due = java.util.Arrays.copyOf(due, Math.max(due.length, at + i));
                System.arraycopy(bytes, 0, due, at, i);
                Bench.same("write", bench.write("a", bytes, at), due.length);
            }
            if (i % 9 == 0) {
                bench.disk.sync();
            }
        }
        for (int from = 0; from < due.length; from += 4096) {
            int length = bench.read("a", from, 4096);
            Bench.same("read", length, Math.min(4096, due.length - from));
            for (int i = part; i < length; i += 97) {
                Bench.same("byte " + (from + i), bench.disk.result(i), due[from + i] & 255);
            }
        }
    }
}
