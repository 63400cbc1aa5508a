import java.io.IOException;
import java.lang.reflect.Constructor;
import java.lang.reflect.Field;
import java.lang.reflect.Method;
import java.lang.reflect.Modifier;
import java.nio.file.Files;
import java.nio.file.Path;
import java.util.regex.Matcher;
import java.util.regex.Pattern;

/** Those rules of LANGUAGE.md that can be seen in the words of the source alone. Run from the project's folder. */
final class LanguageTest {
    private static final String[] RULED_OUT = {
        "throw", "throws", "try", "catch", "finally", "synchronized", "assert", "package", "protected", "volatile",
        "transient", "native", "strictfp", "var", "equals\\s*\\(\\s*Object", "hashCode", "toString", "Object",
        "Math\\.\\w*Exact", "float", "double", "Random", "System\\.(?!arraycopy)\\w+", "Thread", "->", "::",
        "Arrays\\.(?!fill|copyOf|copyOfRange)\\w+", "Integer\\.(?!bitCount)\\w+", "\\[\\]\\[\\]\\[\\]"};

    public static void main(String[] args) throws IOException {
        byte[] bytes = Files.readAllBytes(Path.of("src/main/java/SagaDesk.java"));
        for (byte b : bytes) {
            Due.holds("a byte of the source, " + b, b == 10 || b >= 32 && b < 127);
        }
        String source = new String(bytes).replaceAll("(?s)/\\*.*?\\*/", "").replaceAll("//[^\n]*", "");
        String code = source.replaceAll("\"[^\"\n]*\"", "\"\"").replaceAll("'[^'\n]+'", "0");
        for (String word : RULED_OUT) {
            String edge = word.matches("\\w.*") ? "\\b" : "";
            Matcher found = Pattern.compile(edge + word + edge).matcher(code);
            Due.holds("no " + word, !found.find());
        }
        imports(code);
        classes(code);
        staticFields(code);
        methods(code);
        parametersAndFields(SagaDesk.class);
        for (Class<?> inside : SagaDesk.class.getDeclaredClasses()) {
            parametersAndFields(inside);
        }
        Due.end();
    }

    private static void imports(String code) {
        Matcher found = Pattern.compile("\\bimport\\s+([^;]*);").matcher(code);
        while (found.find()) {
            Due.holds("import " + found.group(1), found.group(1).equals("java.util.Arrays"));
        }
    }

    private static void classes(String code) {
        Matcher found = Pattern.compile("([^\n]*)\\bclass\\s+\\w+").matcher(code);
        int classes = 0;
        while (found.find()) {
            classes++;
            Due.holds(found.group(), classes == 1 ? found.group(1).trim().equals("public final")
                : found.group(1).trim().equals("private static final"));
        }
        Due.holds("classes: " + classes, classes <= 12);
    }

    private static void staticFields(String code) {
        Matcher found = Pattern.compile("\\bstatic\\s+(?!final\\b)[\\w\\[\\]]+\\s+\\w+\\s*[=;]").matcher(code);
        Due.holds("static fields are final", !found.find());
        Due.holds("no static block", !Pattern.compile("\\bstatic\\s*\\{").matcher(code).find());
    }

    /** A method's first line ends in ") {" and is no statement; its last is a brace that stands as far in. */
    private static void methods(String code) {
        String[] lines = code.split("\n");
        int methods = 0;
        for (int i = 0; i < lines.length; i++) {
            Matcher head = Pattern.compile("^((?: {4}){1,2})([a-zA-Z][^=;(]*)\\([^=;]*\\) \\{$").matcher(lines[i]);
            if (!head.matches() || lines[i].matches(" *(if|for|while|switch) .*")) {
                continue;
            }
            int end = i;
            while (end < lines.length && !lines[end].equals(head.group(1) + "}")) {
                end++;
            }
            methods++;
            Due.holds(lines[i].trim() + " .. has " + (end - i + 1) + " lines", end - i + 1 <= 60);
            // A constructor's name begins like a class's.
            if (!head.group(2).matches("(.* )?[A-Z]\\w*")) {
                makesNothing(lines, i, end);
            }
        }
        Due.holds("methods seen: " + methods, methods > 100);
    }

    /** All calls of one run live in one room: only constructors make objects and arrays. */
    private static void makesNothing(String[] lines, int from, int end) {
        Pattern making = Pattern.compile("\\bnew\\b|\\bclone\\b|\\bcopyOf|\\bsubstring\\b|\\btoCharArray\\b");
        for (int i = from; i < end; i++) {
            Due.holds("nothing is made by " + lines[i].trim(), !making.matcher(lines[i]).find());
        }
    }

    private static void parametersAndFields(Class<?> of) {
        for (Method method : of.getDeclaredMethods()) {
            Due.holds(of + "." + method.getName() + " takes few enough", method.getParameterCount() <= 7);
        }
        for (Constructor<?> constructor : of.getDeclaredConstructors()) {
            Due.holds(of + " is made of few enough", constructor.getParameterCount() <= 7);
        }
        int fields = 0;
        for (Field field : of.getDeclaredFields()) {
            fields += Modifier.isStatic(field.getModifiers()) ? 0 : 1;
        }
        Due.holds(of + " has " + fields + " fields", fields <= 20);
    }
}
