import java.io.IOException;
import java.lang.management.ManagementFactory;
import java.lang.reflect.Constructor;
import java.lang.reflect.Field;
import java.lang.reflect.Method;
import java.lang.reflect.Modifier;
import java.nio.file.Files;
import java.nio.file.Path;
import java.util.Arrays;
import java.util.List;
import java.util.Set;
import java.util.TreeSet;
import java.util.regex.Pattern;
import java.util.stream.Collectors;

/** The document's face, and those rules of LANGUAGE.md that can be seen. Argument: the source's path. */
public final class LanguageTest {
    private static final String[] FACE = {
        "int feed(int, int, int, int, int)", "int end(int)", "void key()", "int format(int)", "int mount(int)",
        "void off()", "int make(int)", "int remove()", "int move(int)", "int write(int, int)", "int size(int)",
        "int read(int, int)", "int list()", "int told(int)", "int sync()", "int result(int)", "int disk(int, int)",
        "int flip(int, int, int, int)", "void copy(int, int)", "void image(boolean)", "void power(int)",
        "int count(int)", "int register(int)",
    };
    private static final String[] UNWANTED = {
        "^(?!\\s*(case|default)\\b).*->", "::", "\\bfinally\\b", "\\bsynchronized\\b", "\\bassert\\b",
        "\\bprotected\\b", "\\bstatic\\s*\\{", "\\bgetMessage\\b", "\\bMath\\.\\w+Exact\\b",
        "\\bSystem\\.(?!arraycopy)", "\\bwhile\\s*\\(true\\)", "\\bfor\\s*\\(;;", "\\bThread\\b",
        "\\bArrays\\.(?!fill|copyOf|copyOfRange)",
    };

    private LanguageTest() {
    }

    public static void main(String[] args) throws IOException {
        face();
        nestedClasses();
        source(Files.readAllLines(Path.of(args[0])));
        room();
        Bench.finish("LanguageTest");
    }

    private static String signature(Method m) {
        String types = Arrays.stream(m.getParameterTypes()).map(Class::getSimpleName).collect(Collectors.joining(", "));
        return m.getReturnType().getSimpleName() + " " + m.getName() + "(" + types + ")";
    }

    private static void face() {
        Class<?> type = LyingDisk.class;
        Bench.holds("public and final", Modifier.isPublic(type.getModifiers()) && Modifier.isFinal(type.getModifiers()));
        Set<String> open = new TreeSet<>();
        Set<String> hidden = new TreeSet<>();
        for (Method m : type.getDeclaredMethods()) {
            (Modifier.isPrivate(m.getModifiers()) ? hidden : open).add(signature(m));
        }
        Bench.same("the face", open.toString(), new TreeSet<>(List.of(FACE)).toString());
        for (Field f : type.getDeclaredFields()) {
            Bench.holds("field " + f.getName() + " is private", Modifier.isPrivate(f.getModifiers()));
        }
        Constructor<?>[] constructors = type.getDeclaredConstructors();
        Bench.same("constructors", constructors.length, 1);
        Bench.holds("the constructor", Modifier.isPublic(constructors[0].getModifiers())
            && constructors[0].getParameterCount() == 0);
    }

    private static void nestedClasses() {
        Set<String> names = Arrays.stream(FACE).map(s -> s.replaceAll(".* (\\w+)\\(.*", "$1")).collect(Collectors.toSet());
        Class<?>[] nested = LyingDisk.class.getDeclaredClasses();
        Bench.holds("some twelve classes", nested.length <= 12);
        for (Class<?> type : nested) {
            Bench.holds(type + " is static", Modifier.isStatic(type.getModifiers()));
            Bench.holds(type + " is not public", !Modifier.isPublic(type.getModifiers()));
            int fields = 0;
            for (Field f : type.getDeclaredFields()) {
                boolean isStatic = Modifier.isStatic(f.getModifiers());
                fields += isStatic ? 0 : 1;
                Bench.holds(type + "'s " + f.getName(), !isStatic || Modifier.isFinal(f.getModifiers()));
            }
            Bench.holds(type + " has at most twenty fields", fields <= 20);
        }
        for (Class<?> type : nested) {
            for (Method m : type.getDeclaredMethods()) {
                boolean hidden = Modifier.isPrivate(m.getModifiers());
                Bench.holds(type + "'s " + m.getName() + " bears no name of the face",
                    !hidden || !names.contains(m.getName()));
                Bench.holds(type + "'s " + m.getName() + " has at most seven parameters", m.getParameterCount() <= 7);
            }
        }
    }

    private static void source(List<String> lines) {
        int start = 0;
        for (int i = 0; i < lines.size(); i++) {
            String line = lines.get(i);
            if (line.startsWith("import")) {
                Bench.holds(line, line.matches("import java\\.util\\.(Arrays|NoSuchElementException);"));
            }
            boolean comment = line.trim().startsWith("*") || line.trim().startsWith("/*") || line.trim().startsWith("//");
            for (String word : UNWANTED) {
                Bench.holds("line " + (i + 1) + ": no " + word, comment || !Pattern.compile(word).matcher(line).find());
            }
            if (line.matches(" {4}( {4})?[A-Za-z].*\\(.*") && !line.endsWith(";")) {
                start = i;
            }
            if (line.matches(" {4}( {4})?\\}")) {
                Bench.holds("line " + (start + 1) + ": at most sixty lines", i - start < 60 || !lines.get(start).contains("("));
            }
        }
    }

    /** All calls of one run live in one room of 7.3 million fields and elements: say 4 bytes each. */
    private static void room() {
        calls(new LyingDisk());
        long taken = allocated(() -> calls(new LyingDisk()));
        Bench.holds("a run takes " + taken + " bytes", taken < 4 * 7_300_000);
    }

    private static long allocated(Runnable run) {
        com.sun.management.ThreadMXBean bean = (com.sun.management.ThreadMXBean) ManagementFactory.getThreadMXBean();
        long id = Thread.currentThread().getId();
        long before = bean.getThreadAllocatedBytes(id);
        run.run();
        return bean.getThreadAllocatedBytes(id) - before;
    }

    private static void calls(LyingDisk disk) {
        disk.format(1024);
        disk.mount(2);
        for (int i = 0; i < 46; i++) {
            int name = 0x61610000 + (i % 30 << 16);
            disk.feed(name, name, name, name, 0x41424344);
            disk.end(2);
            disk.make(1 + i % 7 / 6);
            disk.feed(name, name, name, name, 0x41424344);
            disk.write(2, i * 600);
            disk.sync();
            disk.feed(name, 0, 0, 0, 0);
            disk.end(2);
            disk.read(0, 4096);
            disk.list();
            disk.image(false);
            if (i % 10 == 9) {
                disk.mount(2);
            }
        }
    }
}
