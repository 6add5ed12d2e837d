import java.nio.charset.StandardCharsets;
import java.util.Arrays;
import java.util.function.Supplier;

/** A LyingDisk on the test bench: PATHS and bytes are fed to it, answers are compared with those due. */
final class Bench {
    static final String[] PATH_CALLS = {"make", "remove", "move", "write", "size", "read", "list", "told"};

    private static int compared = 0;
    private static int wrong = 0;
    private static String sentence = "";

    final LyingDisk disk = new LyingDisk();

    /** A new object with a DISK that is MOUNTED. */
    static Bench mounted(int blocks, int cache) {
        Bench bench = new Bench();
        bench.disk.format(blocks);
        bench.disk.mount(cache);
        return bench;
    }

    /** The words of the document for which all is compared from here on, and where they stand. */
    static void says(String where, String words) {
        sentence = where + " says '" + words + "': ";
    }

    static void same(String what, long got, long due) {
        compared++;
        if (got != due) {
            wrong++;
            System.out.println(sentence + what + " answered " + got + ", due is " + due);
        }
    }

    static void same(String what, String got, String due) {
        compared++;
        if (!got.equals(due)) {
            wrong++;
            System.out.println(sentence + what + " answered '" + got + "', due is '" + due + "'");
        }
    }

    static void holds(String what, boolean it) {
        same(what, it ? "so" : "not so", "so");
    }

    static void refused(String what, Class<? extends RuntimeException> due, Runnable call) {
        String got = "nothing";
        try {
            call.run();
        } catch (RuntimeException e) {
            got = e.getClass().getSimpleName();
        }
        same(what + " throws", got, due.getSimpleName());
    }

    /** Ends a test: prints how it went, exit code 1 if an answer was wrong. */
    static void finish(String test) {
        System.out.println(test + ": " + compared + " compared, " + wrong + " wrong");
        System.exit(wrong == 0 && compared > 0 ? 0 : 1);
    }

    static byte[] bytes(String text) {
        return text.getBytes(StandardCharsets.ISO_8859_1);
    }

    static byte[] joined(byte[] a, byte[] b) {
        byte[] c = Arrays.copyOf(a, a.length + b.length);
        System.arraycopy(b, 0, c, a.length, b.length);
        return c;
    }

    /** Bytes that differ from block to block and within one. */
    static byte[] pattern(int length) {
        byte[] bytes = new byte[length];
        for (int i = 0; i < length; i++) {
            bytes[i] = (byte) (i * 7 + i / 256 + 1);
        }
        return bytes;
    }

    /** A block's bytes: the run is played twice, since no object is used for more than 512 calls. */
    static byte[] block(Supplier<Bench> run, int number) {
        byte[] bytes = new byte[256];
        for (int half = 0; half < 256; half += 128) {
            LyingDisk played = run.get().disk;
            for (int at = half; at < half + 128; at++) {
                bytes[at] = (byte) played.disk(number, at);
            }
        }
        return bytes;
    }

    /** How many ACCESSES a call makes. */
    int spent(Runnable call) {
        int before = disk.count(2);
        call.run();
        return disk.count(2) - before;
    }

    Bench tape(byte[] bytes) {
        for (int at = 0; at < bytes.length; at += 20) {
            int[] w = new int[5];
            for (int i = at; i < Math.min(at + 20, bytes.length); i++) {
                w[(i - at) / 4] |= (bytes[i] & 255) << 24 - 8 * ((i - at) % 4);
            }
            int length = disk.feed(w[0], w[1], w[2], w[3], w[4]);
            if (bytes.length - at < 20) {
                disk.end(length - 20 + bytes.length - at);
            }
        }
        return this;
    }

    Bench tape(String text) {
        return tape(bytes(text));
    }

    int make(String path, int sort) {
        return tape(path).disk.make(sort);
    }

    int remove(String path) {
        return tape(path).disk.remove();
    }

    int move(String from, String to) {
        return tape(from + to).disk.move(from.length());
    }

    int write(String path, byte[] bytes, int at) {
        return tape(joined(bytes(path), bytes)).disk.write(path.length(), at);
    }

    int write(String path, String text, int at) {
        return write(path, bytes(text), at);
    }

    int size(String path, int n) {
        return tape(path).disk.size(n);
    }

    int read(String path, int at, int n) {
        return tape(path).disk.read(at, n);
    }

    int list(String path) {
        return tape(path).disk.list();
    }

    int told(String path, int what) {
        return tape(path).disk.told(what);
    }

    /** A call that takes the TAPE, with arguments that fit. */
    int call(String name, String path) {
        switch (name) {
            case "make":
                return make(path, 1);
            case "remove":
                return remove(path);
            case "move":
                return move(path, "moved");
            case "write":
                return write(path, "!", 0);
            case "size":
                return size(path, 1);
            case "read":
                return read(path, 0, 1);
            case "list":
                return list(path);
            default:
                return told(path, 0);
        }
    }

    /** The RESULT as text. */
    String result() {
        return result(0, disk.count(11));
    }

    String result(int from, int to) {
        StringBuilder text = new StringBuilder();
        for (int i = from; i < to; i++) {
            text.append((char) disk.result(i));
        }
        return text.toString();
    }

    /** The text that a file holds, or the answer that reading it gave. */
    String content(String path) {
        int length = read(path, 0, 4096);
        return length < 0 ? String.valueOf(length) : result();
    }

    /** The NAMES in a DIRECTORY in the order of its ENTRIES, each with its INODE's number. */
    String names(String path) {
        int entries = list(path);
        if (entries < 0) {
            return String.valueOf(entries);
        }
        StringBuilder text = new StringBuilder();
        for (int e = 0; e < entries; e++) {
            int number = disk.result(32 * e) << 8 | disk.result(32 * e + 1);
            int end = 32 * e + 3 + disk.result(32 * e + 2);
            text.append(e == 0 ? "" : " ").append(result(32 * e + 3, end)).append('=').append(number);
        }
        return text.toString();
    }
}
