import java.io.IOException;
import java.lang.reflect.Modifier;
import java.nio.file.Files;
import java.nio.file.Path;
import java.util.Arrays;
import java.util.List;
import java.util.Set;
import java.util.TreeSet;
import java.util.regex.Matcher;
import java.util.regex.Pattern;

/** The face of the class, and what of ../shared/LANGUAGE.md can be seen in its text. */
public final class LanguageTest {
    public static void main(String[] args) throws IOException {
        face();
        String source = Files.readString(Path.of("src/main/java/ProofBench.java"));
        String code = source.replaceAll("(?s)/\\*.*?\\*/", "").replaceAll("//[^\n]*", "").replaceAll("\"[^\"\n]*\"", "\"\"")
                .replaceAll("'(\\\\.|[^'])'", "' '");
        words(code);
        sizes(code);
        Bench.done();
    }

    private static void face() {
        Class<?> face = ProofBench.class;
        Set<String> got = new TreeSet<>();
        Arrays.stream(face.getDeclaredMethods()).filter(m -> !Modifier.isPrivate(m.getModifiers()) && !m.isSynthetic())
                .forEach(m -> got.add(Modifier.toString(m.getModifiers()) + " " + m.getReturnType() + " " + m.getName()
                        + Arrays.toString(m.getParameterTypes())));
        Arrays.stream(face.getDeclaredFields()).filter(f -> !Modifier.isPrivate(f.getModifiers()))
                .forEach(f -> got.add(f.toString()));
        Arrays.stream(face.getDeclaredConstructors()).forEach(c -> got.add(c.toString()));
        Set<String> want = new TreeSet<>(List.of("public ProofBench()", "public static final int ProofBench.BAD",
                "public int feed[long, long, long, long, long]", "public int end[int]", "public int run[]", "public int wrong[]",
                "public int outputs[]", "public int out[int]", "public int steps[]", "public int hypotheses[int]",
                "public int facts[]", "public int leans[int, int]", "public int inductive[int]", "public int refusals[int]"));
        Bench.due("the face", got, want);
        Bench.due("public final", face.getModifiers(), Modifier.PUBLIC | Modifier.FINAL);
        for (Class<?> inside : face.getDeclaredClasses()) {
            Bench.due(inside + " is static", Modifier.isStatic(inside.getModifiers()), true);
            Bench.due(inside + " is not public", Modifier.isPublic(inside.getModifiers()), false);
        }
        Bench.due("classes, at most 12", face.getDeclaredClasses().length + 1 <= 12, true);
    }

    private static void words(String code) {
        for (String word : List.of("throw", "try", "catch", "synchronized", "assert", "throws", "transient", "volatile", "native",
                "Object", "HashMap", "Random", "Thread", "System.out", "currentTimeMillis", "nanoTime", "hashCode", "toString", "var")) {
            Bench.due("no " + word, Pattern.compile("\\b" + Pattern.quote(word) + "\\b").matcher(code).find(), false);
        }
        Bench.due("no lambda", code.contains("->"), false);
        Bench.due("no method reference", code.contains("::"), false);
        Bench.due("texts are not joined by +", Pattern.compile("\"\\s*\\+|\\+\\s*\"").matcher(code).find(), false);
        Matcher imports = Pattern.compile("import ([^;]*);").matcher(code);
        while (imports.find()) {
            Bench.due("import", imports.group(1), "java.util.Arrays");
        }
    }

    private static void sizes(String code) {
        Pattern head = Pattern.compile("^( +)(?:(?:public|private|static|final) )*[\\w\\[\\]]+ ?\\w*\\(([^)]*)\\) \\{$", Pattern.MULTILINE);
        Matcher m = head.matcher(code);
        int methods = 0;
        while (m.find()) {
            methods++;
            int end = code.indexOf("\n" + m.group(1) + "}", m.end());
            int lines = code.substring(m.start(), end).split("\n").length + 1;
            Bench.due(lines + " lines of " + m.group().trim(), lines <= 60, true);
            Bench.due("parameters of " + m.group().trim(), m.group(2).split(",").length <= 7, true);
        }
        Bench.due("methods are found", methods > 100, true);
    }
}
