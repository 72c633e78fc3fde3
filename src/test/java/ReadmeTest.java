import java.io.IOException;
import java.lang.reflect.Method;
import java.lang.reflect.Modifier;
import java.nio.charset.StandardCharsets;
import java.nio.file.Files;
import java.nio.file.Path;
import java.util.Arrays;
import java.util.Set;
import java.util.TreeSet;
import java.util.regex.Matcher;
import java.util.regex.Pattern;

/** Does the calls of README.md's example, line by line, and compares with the answers that stand there. */
public final class ReadmeTest {
    private static final Pattern CALL = Pattern.compile("bench\\.(\\w+)\\(([^)]*)\\); +// (-?\\d+)(:.*)?");
    private static final Pattern TEXT = Pattern.compile("// \"(.*)\"");

    private final ProofBench bench = new ProofBench();
    private final Set<String> called = new TreeSet<>();
    private String text = "";

    public static void main(String[] args) throws ReflectiveOperationException, IOException {
        String readme = Files.readString(Path.of("README.md"));
        Matcher block = Pattern.compile("(?s)```java\n(.*?)```").matcher(readme);
        Bench.due("README.md has an example", block.find(), true);
        new ReadmeTest().example(block.group(1).split("\n"));
        Bench.due("README.md tells how the tests are run", readme.contains("\n    .ci/run\n"), true);
        Bench.done();
    }

    private void example(String[] lines) throws ReflectiveOperationException {
        Bench.sentence("the example of README.md");
        Bench.due("its first line", lines[0], "ProofBench bench = new ProofBench();");
        for (int k = 1; k < lines.length; k++) {
            Matcher words = TEXT.matcher(lines[k]);
            Matcher call = CALL.matcher(lines[k]);
            if (words.matches()) {
                text = words.group(1);
            } else if (call.matches()) {
                due(call);
            } else {
                Bench.due("a line that tells nothing", lines[k], "");
            }
        }
        Set<String> face = new TreeSet<>();
        Arrays.stream(ProofBench.class.getDeclaredMethods()).filter(m -> Modifier.isPublic(m.getModifiers())).forEach(m -> face.add(m.getName()));
        Bench.due("methods that are called", called, face);
    }

    private void due(Matcher call) throws ReflectiveOperationException {
        String name = call.group(1);
        String[] words = call.group(2).isEmpty() ? new String[0] : call.group(2).split(", ");
        Object[] values = new Object[words.length];
        Class<?>[] types = new Class<?>[words.length];
        for (int k = 0; k < words.length; k++) {
            boolean isLong = words[k].endsWith("L");
            types[k] = isLong ? long.class : int.class;
            values[k] = isLong ? (Object) Long.parseLong(words[k].substring(2, words[k].length() - 1), 16) : (Object) Integer.parseInt(words[k]);
        }
        if (name.equals("feed")) {
            Bench.due("the bytes of " + call.group(), bytes(values), text + Bench.repeat(" ", 40 - text.length()));
        }
        Method method = ProofBench.class.getMethod(name, types);
        Bench.due(call.group(), method.invoke(bench, values), Integer.parseInt(call.group(3)));
        called.add(name);
    }

    private static String bytes(Object[] longs) {
        byte[] all = new byte[8 * longs.length];
        for (int k = 0; k < all.length; k++) {
            all[k] = (byte) ((Long) longs[k / 8] >> 56 - 8 * (k % 8));
        }
        return new String(all, StandardCharsets.ISO_8859_1);
    }
}
