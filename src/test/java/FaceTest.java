import java.io.IOException;
import java.lang.reflect.Constructor;
import java.lang.reflect.Executable;
import java.lang.reflect.Field;
import java.lang.reflect.Method;
import java.lang.reflect.Modifier;
import java.nio.file.Files;
import java.nio.file.Path;
import java.util.ArrayList;
import java.util.Arrays;
import java.util.List;
import java.util.Set;
import java.util.TreeSet;
import java.util.regex.Pattern;
import java.util.stream.Collectors;

/** The public face of the document, and the rules of LANGUAGE.md that can be seen from outside. */
public final class FaceTest {
    private static final String[] FACE = {
        "int feed(int, long, int) IndexOutOfBounds IllegalArgument IllegalState",
        "int fill(int, int, int) IndexOutOfBounds IllegalArgument IllegalState",
        "int cut(int, int) IndexOutOfBounds IllegalArgument",
        "int set(int, int, int) IndexOutOfBounds IllegalArgument",
        "int size(int) IndexOutOfBounds",
        "int byteAt(int, int) IndexOutOfBounds",
        "int turn()",
        "int advance()",
        "int check(int, int, int) IndexOutOfBounds",
        "int match(int, int) IndexOutOfBounds",
        "int matchPlace(int, int) IndexOutOfBounds",
        "int blocks(int) IllegalArgument",
        "int setLeast(int) IllegalArgument",
        "int plan()",
        "boolean hasPlan()",
        "int cost() IllegalState",
        "int kind(int) IllegalState IndexOutOfBounds",
        "int length(int) IllegalState IndexOutOfBounds",
        "int operand(int) IllegalState IndexOutOfBounds",
        "int start(int) IllegalState IndexOutOfBounds",
        "int made(int) IllegalState IndexOutOfBounds",
        "double ratio() IllegalState",
        "int encode() IllegalState",
        "int codeSize()",
        "int code(int) IndexOutOfBounds",
        "int setCode(int, int) IndexOutOfBounds IllegalArgument",
        "int cutCode(int) IllegalArgument",
        "int appendCode(int) IllegalArgument IllegalState",
        "int decode()",
        "int errorPosition()",
        "int outputSize()",
        "int output(int) IndexOutOfBounds",
        "int differences()",
        "long digest()",
    };

    private static final String[] NEVER = {
        "->", "::", "\\btry\\b", "\\bcatch\\b", "\\bfinally\\b", "\\bassert\\b", "\\bsynchronized\\b",
        "\\bstatic\\s*\\{", "\\bSystem\\b", "\\bRandom\\b", "\\bThread\\b", "Exact\\b", "\\bObject\\b",
        "\\bpackage\\b", "\\bwhile \\(true\\)", "\\bfor \\(;;\\)", "[^\\x00-\\x7f]",
    };

    public static void main(String[] args) throws IOException {
        Class<?> face = DeltaCodec.class;
        Due.is("the class is public and final", 1,
                Modifier.isPublic(face.getModifiers()) && Modifier.isFinal(face.getModifiers()) ? 1 : 0);
        Due.isText("the methods", text(new TreeSet<>(Arrays.asList(FACE))), text(methods(face)));
        Constructor<?>[] constructors = face.getDeclaredConstructors();
        Due.is("one constructor", 1, constructors.length);
        Due.is("it is public", 1, Modifier.isPublic(constructors[0].getModifiers()) ? 1 : 0);
        Due.is("it takes nothing", 0, constructors[0].getParameterCount());
        for (Field field : face.getDeclaredFields()) {
            Due.is(field + " is private", 1, Modifier.isPrivate(field.getModifiers()) ? 1 : 0);
        }
        List<Class<?>> classes = new ArrayList<>(Arrays.asList(face.getDeclaredClasses()));
        for (Class<?> inside : classes) {
            Due.is(inside + " is static", 1, Modifier.isStatic(inside.getModifiers()) ? 1 : 0);
        }
        classes.add(face);
        classes.forEach(FaceTest::rulesOfClass);
        source();
        Due.end();
    }

    private static String text(Set<String> lines) {
        return String.join("\n", lines);
    }

    private static TreeSet<String> methods(Class<?> face) {
        TreeSet<String> all = new TreeSet<>();
        for (Method method : face.getDeclaredMethods()) {
            if (!Modifier.isPrivate(method.getModifiers())) {
                String types = Arrays.stream(method.getParameterTypes()).map(Class::getSimpleName)
                        .collect(Collectors.joining(", "));
                String thrown = Arrays.stream(method.getExceptionTypes())
                        .map(e -> " " + e.getSimpleName().replace("Exception", ""))
                        .collect(Collectors.joining());
                all.add(method.getReturnType() + " " + method.getName() + "(" + types + ")" + thrown);
            }
        }
        return all;
    }

    private static void rulesOfClass(Class<?> one) {
        Set<String> publicNames = Arrays.stream(FACE)
                .map(line -> line.substring(line.indexOf(' ') + 1, line.indexOf('(')))
                .collect(Collectors.toSet());
        int fields = 0;
        for (Field field : one.getDeclaredFields()) {
            boolean isStatic = Modifier.isStatic(field.getModifiers());
            fields += isStatic ? 0 : 1;
            Due.is(field + " is final if static", 1,
                    !isStatic || Modifier.isFinal(field.getModifiers()) ? 1 : 0);
        }
        Due.is(one + " has at most twenty fields", 1, fields <= 20 ? 1 : 0);
        for (Method method : one.getDeclaredMethods()) {
            boolean isOfFace = one == DeltaCodec.class && Modifier.isPublic(method.getModifiers());
            Due.is(method + " has a name of its own", 1,
                    isOfFace || !publicNames.contains(method.getName()) ? 1 : 0);
            Due.is(method + " takes at most seven", 1, takesFew(method) ? 1 : 0);
        }
    }

    private static boolean takesFew(Executable method) {
        return method.getParameterCount() <= 7;
    }

    private static void source() throws IOException {
        String text = Files.readString(Path.of("src/main/java/DeltaCodec.java"));
        String code = text.replaceAll("(?s)/\\*.*?\\*/", "").replaceAll("//[^\n]*", "");
        for (String never : NEVER) {
            Due.is(never + " is not in the source", 0, Pattern.compile(never).matcher(code).find() ? 1 : 0);
        }
        List<String> imports = code.lines().filter(line -> line.startsWith("import"))
                .collect(Collectors.toList());
        Due.isText("the imports", "[import java.util.Arrays;]", imports.toString());
        List<String> news = Pattern.compile("new (\\w+)").matcher(code).results()
                .map(found -> found.group(1)).distinct().sorted().collect(Collectors.toList());
        Due.isText("what is made", "[Decoder, IllegalArgumentException, IllegalStateException, "
                + "IndexOutOfBoundsException, Plan, Planner, Row, int]", news.toString());
    }
}
