import java.io.IOException;
import java.lang.reflect.Method;
import java.lang.reflect.Modifier;
import java.nio.file.Files;
import java.nio.file.Path;
import java.util.Arrays;
import java.util.List;
import java.util.regex.Matcher;
import java.util.regex.Pattern;

/** README.md tells of every call, and its example answers as it says. Argument: the source's path. */
public final class ReadmeTest {
    private static final Pattern EXAMPLE = Pattern.compile("disk\\.(\\w+)\\((.*?)\\);(?:\\s*// (-?\\d+): .*)?");

    private ReadmeTest() {
    }

    public static void main(String[] args) throws IOException, ReflectiveOperationException {
        Path root = Path.of(args[0]).toAbsolutePath().getParent().getParent().getParent().getParent();
        List<String> lines = Files.readAllLines(root.resolve("README.md"));
        String text = String.join("\n", lines);
        for (Method call : LyingDisk.class.getDeclaredMethods()) {
            if (Modifier.isPublic(call.getModifiers())) {
                Bench.holds("it tells of " + call.getName(), text.contains("`" + call.getName() + "("));
            }
        }
        Bench.holds("it tells how the tests are run", lines.contains("    .ci/run"));
        example(lines);
        Bench.finish("ReadmeTest");
    }

    private static void example(List<String> lines) throws ReflectiveOperationException {
        LyingDisk disk = new LyingDisk();
        int calls = 0;
        for (String line : lines) {
            Matcher example = EXAMPLE.matcher(line);
            if (example.matches()) {
                calls++;
                String got = String.valueOf(answer(disk, example.group(1), example.group(2)));
                Bench.same(line, got, String.valueOf(example.group(3)));
            }
        }
        Bench.holds("there is an example", calls > 10);
    }

    private static Object answer(LyingDisk disk, String name, String arguments) throws ReflectiveOperationException {
        Object[] numbers = arguments.isEmpty() ? new Object[0]
            : Arrays.stream(arguments.split(", ")).map(Integer::decode).toArray();
        Class<?>[] types = new Class<?>[numbers.length];
        Arrays.fill(types, int.class);
        return LyingDisk.class.getMethod(name, types).invoke(disk, numbers);
    }
}
