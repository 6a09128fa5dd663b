import java.io.IOException;
import java.lang.reflect.Modifier;
import java.net.URL;
import java.net.URLClassLoader;
import java.nio.file.Files;
import java.nio.file.Path;
import java.util.ArrayList;
import java.util.Arrays;
import java.util.List;
import java.util.Set;
import java.util.TreeSet;
import java.util.regex.Matcher;
import java.util.regex.Pattern;
import java.util.stream.Collectors;
import javax.tools.ToolProvider;

/** README.md: its example is compiled and run as it stands there, and it names the whole face. */
public final class ReadmeTest {
    private static final Pattern EXAMPLE = Pattern.compile("(?s)```java\n(.*?)```");
    // A line whose comment begins with a number: what the name in front is due to be.
    private static final Pattern TOLD = Pattern.compile("(?:int )?(\\w+) = .*; *// (-?\\d+):.*");

    public static void main(String[] args) throws Exception {
        String readme = Files.readString(Path.of("README.md"));
        Matcher example = EXAMPLE.matcher(readme);
        Due.is("there is an example", 1, example.find() ? 1 : 0);
        List<String> names = new ArrayList<>();
        List<Integer> due = new ArrayList<>();
        int[] got = run(program(example.group(1), names, due));
        Due.is("answers of the example", names.size(), got.length);
        Due.is("the example tells answers", 1, names.size() >= 10 ? 1 : 0);
        for (int i = 0; i < got.length; i++) {
            Due.is("the example's " + names.get(i), due.get(i), got[i]);
        }
        namesTheFace(readme);
        Due.end();
    }

    private static String program(String example, List<String> names, List<Integer> due) {
        StringBuilder text = new StringBuilder("public final class Example {\n");
        text.append("public static int[] answers() {\n");
        text.append("int[] all = new int[100];\n");
        for (String line : example.split("\n")) {
            text.append(line).append('\n');
            Matcher told = TOLD.matcher(line);
            if (told.matches()) {
                text.append("all[").append(names.size()).append("] = ").append(told.group(1)).append(";\n");
                names.add(told.group(1));
                due.add(Integer.valueOf(told.group(2)));
            }
        }
        text.append("return java.util.Arrays.copyOf(all, ").append(names.size()).append(");\n}\n}\n");
        return text.toString();
    }

    private static int[] run(String program) throws Exception {
        Path directory = Files.createTempDirectory("readme");
        try {
            Path file = Files.writeString(directory.resolve("Example.java"), program);
            int failed = ToolProvider.getSystemJavaCompiler().run(null, null, null,
                    "-cp", System.getProperty("java.class.path"), "-d", directory.toString(),
                    file.toString());
            Due.is("the example compiles", 0, failed);
            if (failed != 0) {
                return new int[0];
            }
            URL[] where = {directory.toUri().toURL()};
            try (URLClassLoader loader = new URLClassLoader(where, ReadmeTest.class.getClassLoader())) {
                return (int[]) loader.loadClass("Example").getMethod("answers").invoke(null);
            }
        } finally {
            remove(directory);
        }
    }

    private static void remove(Path directory) throws IOException {
        for (String name : new String[] {"Example.java", "Example.class"}) {
            Files.deleteIfExists(directory.resolve(name));
        }
        Files.delete(directory);
    }

    private static void namesTheFace(String readme) {
        Set<String> quoted = Pattern.compile("`(\\w+)`").matcher(readme).results()
                .map(found -> found.group(1)).collect(Collectors.toSet());
        Set<String> missing = Arrays.stream(DeltaCodec.class.getDeclaredMethods())
                .filter(method -> Modifier.isPublic(method.getModifiers()))
                .map(method -> method.getName()).filter(name -> !quoted.contains(name))
                .collect(Collectors.toCollection(TreeSet::new));
        Due.isText("methods that README.md does not name", "[]", missing.toString());
    }
}
