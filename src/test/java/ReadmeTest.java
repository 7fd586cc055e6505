import java.io.IOException;
import java.lang.reflect.Method;
import java.lang.reflect.Modifier;
import java.net.URL;
import java.net.URLClassLoader;
import java.nio.file.Files;
import java.nio.file.Path;
import java.util.Comparator;
import java.util.List;
import java.util.function.Supplier;
import java.util.regex.Matcher;
import java.util.regex.Pattern;
import java.util.stream.Stream;
import javax.tools.ToolProvider;

/** README.md tells every call, and its example answers what stands behind each line of it. */
public final class ReadmeTest {
    private static final Pattern LINE = Pattern.compile("((?:int (\\w+) = )?(.*?));\\s*// (-?\\d+|true|false)\\b.*");

    public static void main(String[] args) throws Exception {
        String readme = Files.readString(Path.of("README.md"));
        everyCallIsTold(readme);
        Path folder = Files.createTempDirectory("readme");
        try {
            runExample(folder, exampleOf(readme));
        } finally {
            remove(folder);
        }
        Desk.close();
    }

    private static void everyCallIsTold(String readme) {
        for (Method method : ComplaintDesk.class.getDeclaredMethods()) {
            if (Modifier.isPublic(method.getModifiers())) {
                Desk.due("README.md tells of " + method.getName(), readme.contains("| `" + method.getName() + "("), true);
            }
        }
    }

    private static List<String> exampleOf(String readme) {
        Matcher example = Pattern.compile("(?s)```java\n(.*?)```").matcher(readme);
        Desk.due("README.md has an example", example.find(), true);
        return example.group(1).lines().toList();
    }

    private static void runExample(Path folder, List<String> example) throws Exception {
        StringBuilder code = new StringBuilder("public class ReadmeExample implements java.util.function.Supplier<Object> {\n"
                + "public Object get() {\nStringBuilder got = new StringBuilder();\n");
        StringBuilder want = new StringBuilder();
        for (String line : example) {
            Matcher told = LINE.matcher(line);
            if (!told.matches()) {
                Desk.due("a line without an answer", line, "ComplaintDesk desk = new ComplaintDesk();");
                code.append(line).append('\n');
                continue;
            }
            if (told.group(2) != null) {
                code.append(told.group(1)).append(";\n");
            }
            String value = told.group(2) != null ? told.group(2) : told.group(3);
            code.append("got.append(\"").append(told.group(1)).append(": \").append(").append(value).append(").append('\\n');\n");
            want.append(told.group(1)).append(": ").append(told.group(4)).append('\n');
        }
        code.append("return got.toString();\n}\n}\n");
        Desk.due("the example of README.md", answersOf(folder, code.toString()), want.toString());
    }

    private static Object answersOf(Path folder, String code) throws Exception {
        Path file = Files.writeString(folder.resolve("ReadmeExample.java"), code);
        int refused = ToolProvider.getSystemJavaCompiler().run(null, null, null, "-cp",
                System.getProperty("java.class.path"), "-d", folder.toString(), file.toString());
        if (refused != 0) {
            return "javac refuses it";
        }
        try (URLClassLoader loader = new URLClassLoader(new URL[] {folder.toUri().toURL()},
                ReadmeTest.class.getClassLoader())) {
            return ((Supplier<?>) loader.loadClass("ReadmeExample").getConstructor().newInstance()).get();
        }
    }

    private static void remove(Path folder) throws IOException {
        try (Stream<Path> paths = Files.walk(folder)) {
            for (Path path : paths.sorted(Comparator.reverseOrder()).toList()) {
                Files.delete(path);
            }
        }
    }
}
