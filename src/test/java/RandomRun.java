import java.lang.reflect.InvocationTargetException;
import java.lang.reflect.Method;
import java.util.ArrayList;
import java.util.Arrays;
import java.util.HashMap;
import java.util.List;
import java.util.Map;
import java.util.Random;

/**
 * A random run of at most 512 calls on a LyingDisk and on the Model: each answer and each exception must
 * be the same. If it is to be deep, every counter is compared after every call and the whole disk at the
 * end, whatever the number of calls.
 */
class RandomRun {
    static final int CALLS = 512;
    /** What the document has calls throw: nothing else may reach a caller, even if the Model throws it, too. */
    private static final List<String> THROWN = List.of("throws.IllegalStateException", "throws.IllegalArgumentException",
        "throws.IndexOutOfBoundsException", "throws.NoSuchElementException");
    private static final Map<String, Method> REAL = methodsOf(LyingDisk.class);
    private static final Map<String, Method> DUE = methodsOf(Model.class);

    final Random random;
    final LyingDisk real = new LyingDisk();
    final Model model = new Model();
    final List<String> log = new ArrayList<>();
    final boolean deep;
    final int kind;
    /** PATHS that were there once, so that most calls find something. */
    private final List<String> files = new ArrayList<>();
    private final List<String> directories = new ArrayList<>();
    private String lastPath = "";
    private String lastAnswer = "";
    int calls = 0;
    boolean same = true;

    RandomRun(long seed, boolean deep) {
        random = new Random(seed);
        this.deep = deep;
        kind = (int) (seed % 6);
    }

    private static Map<String, Method> methodsOf(Class<?> type) {
        Map<String, Method> methods = new HashMap<>();
        for (Method m : type.getDeclaredMethods()) {
            boolean plain = Arrays.stream(m.getParameterTypes()).allMatch(Class::isPrimitive);
            if (plain && !java.lang.reflect.Modifier.isStatic(m.getModifiers())
                && !java.lang.reflect.Modifier.isPrivate(m.getModifiers())) {
                methods.put(m.getName(), m);
            }
        }
        return methods;
    }

    private static String answer(Method method, Object on, Object[] args) {
        try {
            method.setAccessible(true);
            return String.valueOf(method.invoke(on, args));
        } catch (InvocationTargetException e) {
            return "throws." + e.getCause().getClass().getSimpleName();
        } catch (IllegalAccessException e) {
            throw new AssertionError(e);
        }
    }

    String call(String name, Object... args) {
        calls++;
        String got = answer(REAL.get(name), real, args);
        String due = answer(DUE.get(name), model, args);
        String text = name + Arrays.toString(args).replace('[', '(').replace(']', ')');
        log.add(text + " -> " + got);
        lastAnswer = name.equals("count") ? lastAnswer : got;
        if (!got.equals(due) || got.startsWith("throws.") && !THROWN.contains(got)) {
            log.add("  due is " + due);
            same = false;
        }
        return got;
    }

    void countAnswers(Map<String, Integer> answers) {
        for (String line : log) {
            String answer = line.replaceAll("\\(.*\\)", "").replaceAll(" -> \\d+$", " -> n");
            answers.merge(answer, 1, Integer::sum);
        }
    }

    int below(int n) {
        return random.nextInt(n);
    }

    boolean chance(int percent) {
        return below(100) < percent;
    }

    void play() {
        if (chance(30)) {
            tape(randomBytes(32));
            call("key");
        }
        call("format", blocks());
        call("mount", 2 + below(chance(50) ? 4 : 63));
        if (kind == 3) {
            manyNames();
        }
        while (same && calls < (deep ? 20 * CALLS : CALLS - 8)) {
            step();
            for (int what = 0; deep && what < 12; what++) {
                call("count", what);
            }
        }
        if (deep && same) {
            compareDisks();
        }
    }

    int blocks() {
        return kind == 0 ? 64 : kind == 1 ? 1024 : kind == 2 ? 64 + 8 * below(10) : 64 + 8 * below(121);
    }

    void compareDisks() {
        for (int block = 0; same && block < Integer.parseInt(answer(REAL.get("count"), real, new Object[] {1})); block++) {
            for (int at = 0; same && at < 256; at++) {
                call("disk", block, at);
                log.remove(log.size() - (same ? 1 : 2));
            }
        }
    }

    /** Enough names in one DIRECTORY, and enough INODES, to come to the limits. */
    void manyNames() {
        String top = chance(50) ? "" : "d/";
        tape("d".getBytes());
        call("make", 2);
        directories.add("d");
        int names = 55 + below(12);
        for (int i = 0; same && i < names; i++) {
            tape((top + "n" + i).getBytes());
            call("make", 1);
            files.add(top + "n" + i);
        }
        for (int i = 0; same && chance(60) && i < 64; i++) {
            tape((top.isEmpty() ? "d/m" + i : "m" + i).getBytes());
            call("make", 1 + below(2));
        }
    }

    private void tape(byte[] bytes) {
        for (int at = 0; at < bytes.length; at += 20) {
            int[] words = new int[5];
            for (int i = 0; i < 20 && at + i < bytes.length; i++) {
                words[i / 4] |= (bytes[at + i] & 255) << 24 - 8 * (i % 4);
            }
            call("feed", words[0], words[1], words[2], words[3], words[4]);
        }
        if (bytes.length % 20 != 0 || chance(10)) {
            call("end", bytes.length);
        }
    }

    byte[] randomBytes(int n) {
        byte[] bytes = new byte[n];
        random.nextBytes(bytes);
        return bytes;
    }

    private byte[] path() {
        if (chance(3)) {
            return oddPath();
        }
        List<String> known = chance(75) ? files : directories;
        if (!known.isEmpty() && chance(90)) {
            return known(known);
        }
        return newPath();
    }

    private byte[] known(List<String> paths) {
        lastPath = paths.get(below(paths.size()));
        return lastPath.getBytes(java.nio.charset.StandardCharsets.ISO_8859_1);
    }

    private byte[] newPath() {
        if (!directories.isEmpty() && chance(70)) {
            return joined(known(directories), ("/" + "abcdefgh".substring(0, 1 + below(8))).getBytes());
        }
        if (kind == 3 && chance(60)) {
            return ((chance(50) ? "" : "d/") + (chance(50) ? "n" : "m") + below(66)).getBytes();
        }
        StringBuilder text = new StringBuilder();
        int names = chance(80) ? 1 : below(5);
        for (int i = 0; i < names; i++) {
            text.append(i == 0 ? "" : "/").append("abcd".charAt(below(kind == 4 ? 2 : 4)));
        }
        return text.toString().getBytes();
    }

    private byte[] oddPath() {
        switch (below(6)) {
            case 0:
                return "/a".getBytes();
            case 1:
                return "a/".getBytes();
            case 2:
                return "x".repeat(29 + below(2)).getBytes();
            case 3:
                return ("a" + "/a".repeat(15 + below(2))).getBytes();
            case 4:
                return new byte[] {97, 0};
            default:
                return new byte[] {(byte) 200, (byte) 255};
        }
    }

    private static byte[] joined(byte[] a, byte[] b) {
        byte[] c = Arrays.copyOf(a, a.length + b.length);
        System.arraycopy(b, 0, c, a.length, b.length);
        return c;
    }

    private int place() {
        int[] edges = {0, 255, 256, 257, 1791, 1792, 1793, 12543, 12544, 12545, 65535, 65536, 65537};
        if (chance(30)) {
            return edges[below(edges.length)];
        }
        return chance(50) ? below(1000) : chance(50) ? below(14000) : below(66000);
    }

    private void remember(String answer, byte[] path, boolean directory) {
        if (Character.isDigit(answer.charAt(0))) {
            (directory ? directories : files).add(new String(path, java.nio.charset.StandardCharsets.ISO_8859_1));
        }
    }

    /** Most of what cannot go on is made so that it can. */
    private void mend() {
        if (chance(50) && call("count", 4).equals("1")) {
            call("format", blocks());
            files.clear();
            directories.clear();
        }
        if (chance(80) && call("count", 3).equals("0")) {
            call("mount", 2 + below(chance(60) ? 3 : 63));
        }
    }

    void step() {
        int dice = below(100);
        if (lastAnswer.matches("-[123]")) {
            mend();
        }
        if (lastAnswer.equals("-5")) {
            files.remove(lastPath);
            directories.remove(lastPath.replaceAll("/[a-h]*$", ""));
            directories.remove(lastPath);
        }
        if (dice < 20) {
            byte[] path = chance(80) ? newPath() : path();
            tape(path);
            int sort = chance(98) ? 1 + below(2) : below(4);
            remember(call("make", sort), path, sort == 2);
        } else if (dice < 27) {
            tape(path());
            call("remove");
        } else if (dice < 35) {
            byte[] from = path();
            byte[] to = chance(80) ? newPath() : path();
            tape(joined(from, to));
            remember(call("move", chance(98) ? from.length : from.length + below(40) - 20), to, chance(50));
        } else if (dice < 50) {
            byte[] path = path();
            tape(joined(path, randomBytes(chance(80) ? below(40) : below(1200))));
            call("write", path.length, chance(98) ? place() : below(3) == 0 ? -1 : Integer.MAX_VALUE);
        } else if (dice < 60) {
            tape(path());
            call("size", chance(98) ? place() : -1);
        } else if (dice < 68) {
            tape(path());
            call("read", chance(98) ? place() : -1, chance(98) ? below(4097) : 4097);
            call("result", below(300));
        } else if (dice < 72) {
            tape(path());
            call("list");
            call("result", below(100));
        } else if (dice < 77) {
            tape(path());
            call("told", chance(98) ? below(4) : 4);
        } else if (dice < 83) {
            call("sync");
        } else {
            rareStep(below(kind == 5 ? 100 : 40));
        }
    }

    /** What ends what is MOUNTED comes less often, and most often in one kind of run. */
    private void rareStep(int dice) {
        if (dice < 12) {
            call("count", below(14) - 1);
        } else if (dice < 24) {
            call("disk", chance(95) ? below(70) : 1024, chance(95) ? below(256) : 256);
        } else if (dice < 28) {
            call("register", below(34) - 1);
        } else if (dice < 34) {
            if (chance(80)) {
                call("sync");
            }
            call("mount", chance(95) ? 2 + below(chance(50) ? 3 : 63) : 65 * below(2));
        } else if (dice < 36) {
            call("image", chance(20));
        } else if (dice < 37) {
            call(chance(80) ? "sync" : "off");
        } else if (dice < 60) {
            call("power", chance(97) ? below(14) : -1);
        } else if (dice < 85) {
            int when = chance(60) ? below(30) : chance(90) ? 1000 : -1;
            call("flip", chance(95) ? below(80) : -1, chance(95) ? below(256) : -1, random.nextInt(), when);
        } else if (dice < 90) {
            call("copy", chance(95) ? below(80) : -1, chance(95) ? below(80) : 2000);
        } else if (dice < 95) {
            call("image", chance(50));
        } else {
            call("format", chance(90) ? blocks() : 63);
            call("mount", 2 + below(6));
        }
    }
}
