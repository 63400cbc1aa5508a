import java.io.IOException;
import java.nio.file.Files;
import java.nio.file.Path;
import java.util.regex.Matcher;
import java.util.regex.Pattern;

/** Those rules of LANGUAGE.md that can be seen in the words of the source alone. Run from the project's folder. */
final class LanguageTest {
    private static final String[] RULED_OUT = {
        "throw", "throws", "try", "catch", "finally", "synchronized", "assert", "package", "protected", "volatile",
        "transient", "native", "strictfp", "var", "equals\\s*\\(\\s*Object", "hashCode", "toString", "Object",
        "Math\\.\\w*Exact", "float", "double", "Random", "System\\.(?!arraycopy)\\w+", "Thread", "->", "::",
        "Arrays\\.(?!fill|copyOf|copyOfRange)\\w+", "Integer\\.(?!bitCount)\\w+", "\\[\\]\\[\\]\\[\\]"};

    public static void main(String[] args) throws IOException {
        byte[] bytes = Files.readAllBytes(Path.of("src/main/java/SagaDesk.java"));
        for (byte b : bytes) {
            Due.holds("a byte of the source, " + b, b == 10 || b >= 32 && b < 127);
        }
        String source = new String(bytes).replaceAll("(?s)/\\*.*?\\*/", "").replaceAll("//[^\n]*", "");
        String code = source.replaceAll("\"[^\"\n]*\"", "\"\"").replaceAll("'[^'\n]+'", "0");
        for (String word : RULED_OUT) {
            String edge = word.matches("\\w.*") ? "\\b" : "";
            Matcher found = Pattern.compile(edge + word + edge).matcher(code);
            Due.holds("no " + word, !found.find());
        }
        imports(code);
        classes(code);
        staticFields(code);
        Due.end();
    }

    private static void imports(String code) {
        Matcher found = Pattern.compile("\\bimport\\s+([^;]*);").matcher(code);
        while (found.find()) {
            Due.holds("import " + found.group(1), found.group(1).equals("java.util.Arrays"));
        }
    }

    private static void classes(String code) {
        Matcher found = Pattern.compile("([^\n]*)\\bclass\\s+\\w+").matcher(code);
        int classes = 0;
        while (found.find()) {
            classes++;
            Due.holds(found.group(), classes == 1 ? found.group(1).trim().equals("public final")
                : found.group(1).trim().equals("private static final"));
        }
        Due.holds("classes: " + classes, classes <= 12);
    }

    private static void staticFields(String code) {
        Matcher found = Pattern.compile("\\bstatic\\s+(?!final\\b)[\\w\\[\\]]+\\s+\\w+\\s*[=;]").matcher(code);
        Due.holds("static fields are final", !found.find());
        Due.holds("no static block", !Pattern.compile("\\bstatic\\s*\\{").matcher(code).find());
    }
}
