import java.io.IOException;
import java.nio.file.Files;
import java.nio.file.Path;
import java.util.List;
import java.util.Set;
import java.util.TreeSet;
import java.util.regex.Matcher;
import java.util.regex.Pattern;

/** Those rules of LANGUAGE.md that can be seen in the text of the class (the tests are run in the project's folder). */
public final class LanguageTest {
    private static final int MOST_METHOD_LINES = 60;
    private static final int MOST_PARAMETERS = 7;
    private static final int MOST_CLASSES = 12;
    private static final int MOST_FIELDS = 20;
    private static final Set<String> IMPORTS = Set.of("java.util.ArrayList", "java.util.Arrays", "java.util.List",
            "java.util.Iterator", "java.util.NoSuchElementException");
    private static final Set<String> CALLS_OF_THE_LIBRARY = Set.of("Arrays.fill", "Arrays.copyOf", "Arrays.copyOfRange",
            "Math.min", "Math.max", "Math.abs", "Integer.bitCount", "System.arraycopy");

    public static void main(String[] args) throws IOException {
        String source = Files.readString(Path.of("src/main/java/ComplaintDesk.java"));
        String code = withoutCommentsAndTexts(source);
        imports(code);
        words(code);
        libraryCalls(code);
        exceptions(code);
        methods(code);
        classes(code);
        Desk.close();
    }

    private static String withoutCommentsAndTexts(String source) {
        return source.replaceAll("(?s)/\\*.*?\\*/", "").replaceAll("//[^\n]*", "")
                .replaceAll("\"[^\"\n]*\"", "\"\"").replaceAll("'[^'\n]*'", "0");
    }

    private static Set<String> allOf(String code, String regex) {
        Set<String> found = new TreeSet<>();
        Matcher matcher = Pattern.compile(regex).matcher(code);
        while (matcher.find()) {
            found.add(matcher.group(1));
        }
        return found;
    }

    private static void imports(String code) {
        for (String name : allOf(code, "(?m)^import +([^;]+);")) {
            Desk.due("rule 4: import of " + name, IMPORTS.contains(name), true);
        }
        Desk.due("the file has no package line", code.contains("package "), false);
    }

    private static void words(String code) {
        String[] none = {"->", "::", "\"\" +", "+ \"\"", "@"};
        for (String sign : none) {
            Desk.due("rules 2, 6 and 10: " + sign, code.contains(sign), false);
        }
        String[] noWords = {"catch", "finally", "synchronized", "assert", "protected", "toString", "equals", "hashCode",
            "transient", "volatile", "native", "Object", "Runnable", "HashMap", "System", "Thread"};
        for (String word : noWords) {
            Desk.due("rules 4, 6 and 13: " + word, Pattern.compile("\\b" + word + "\\b").matcher(code).find(), false);
        }
    }

    private static void libraryCalls(String code) {
        for (String call : allOf(code, "\\b((?:Arrays|Math|Integer|Long|System|List|String)\\.\\w+)")) {
            Desk.due("rule 4: " + call, CALLS_OF_THE_LIBRARY.contains(call), true);
        }
    }

    private static void exceptions(String code) {
        Set<String> thrown = allOf(code, "throw ([^;]*);");
        Desk.due("the class throws", thrown.isEmpty(), false);
        for (String what : thrown) {
            Desk.due("rule 6: throw " + what, what.matches("new (IllegalArgumentException|IndexOutOfBoundsException"
                    + "|UnsupportedOperationException|NoSuchElementException)\\((\"\")?\\)"), true);
        }
    }

    private static void methods(String code) {
        List<String> lines = code.lines().toList();
        int begin = -1;
        String indent = "";
        for (int n = 0; n < lines.size(); n++) {
            String line = lines.get(n);
            if (begin < 0 && line.matches("( {4}| {8})[a-zA-Z][^=;]*\\(.*") && !line.contains(" new ")) {
                begin = n;
                indent = line.replaceAll("\\S.*", "");
                int commas = line.replaceAll("\\).*", "").replaceAll("[^,]", "").length();
                Desk.due("rule 11: parameters of " + line.trim(), commas < MOST_PARAMETERS, true);
            }
            if (begin >= 0 && line.equals(indent + "}")) {
                Desk.due("rule 11: lines of " + lines.get(begin).trim(), n - begin < MOST_METHOD_LINES, true);
                begin = -1;
            }
        }
        Desk.due("the last method has an end", begin, -1);
    }

    private static void classes(String code) {
        Desk.due("rule 11: classes", allOf(code, "\\bclass (\\w+)").size() <= MOST_CLASSES, true);
        for (Class<?> inside : ComplaintDesk.class.getDeclaredClasses()) {
            Desk.due("rule 11: fields of " + inside, inside.getDeclaredFields().length <= MOST_FIELDS, true);
        }
        Matcher fields = Pattern.compile("(?m)^ {4}private final (?!class)[^(]*[;=]|^ {4}private (?!static|final)[^(]*[;=]")
                .matcher(code);
        int count = 0;
        while (fields.find()) {
            count++;
        }
        Desk.due("rule 11: fields of the desk", count > 0 && count <= MOST_FIELDS, true);
        Desk.due("rule 5: static fields are constants",
                Pattern.compile("(?m)^\\s+(private |public )?static (?!final)[^(]*[;=]").matcher(code).find(), false);
    }
}
