import java.nio.file.Files;
import java.nio.file.Path;
import java.util.regex.Matcher;
import java.util.regex.Pattern;

/** The rules of LANGUAGE.md that can be seen in the text of the class alone. */
public final class LanguageTest {
    private static final String[] NEVER = {
        "\\bthrow\\b", "\\btry\\b", "\\bcatch\\b", "\\bfinally\\b", "\\bassert\\b",
        "\\bsynchronized\\b", "\\bprotected\\b", "\\bstatic \\{", "->", "::", "@", "\\bthis\\)",
        "\\bgetClass\\b", "\\bhashCode\\b", "\\btoString\\b", "\\bSystem\\.(?!arraycopy)",
        "\\bMath\\.(?!max|min)", "\\bdouble\\b", "\\bfloat\\b", "\\bwhile\\b", "\\?>", "\\bvar\\b",
        "\" \\+", "\\+ \"", "[^\\x00-\\x7f]"};

    public static void main(String[] args) throws Exception {
        Check check = new Check();
        String told = System.getenv("WATER_SOURCE");
        Path path = Path.of(told == null ? "src/main/java/WaterShoulders.java" : told);
        String text = Files.readString(path).replaceAll("(?s)/\\*.*?\\*/", "")
                .replaceAll("//[^\n]*", "");
        for (String never : NEVER) {
            Matcher m = Pattern.compile(never).matcher(text);
            check.holds("the class never has " + never, !m.find());
        }
        imports(check, text);
        statics(check, text);
        classes(check, text);
        methods(check, text);
        check.end("LanguageTest");
    }

    private static void imports(Check check, String text) {
        Matcher m = Pattern.compile("import ([^;]*);").matcher(text);
        while (m.find()) {
            check.holds("import of " + m.group(1), m.group(1).equals("java.util.Arrays"));
        }
        check.holds("no package line", !text.contains("package "));
    }

    private static void statics(Check check, String text) {
        Matcher m = Pattern.compile("\\bstatic (\\S+) [^;({]*;").matcher(text);
        while (m.find()) {
            check.holds("a static field is final: " + m.group(), m.group(1).equals("final"));
        }
    }

    private static void classes(Check check, String text) {
        int n = 0;
        Matcher m = Pattern.compile("\\b(class|enum|record|interface) [A-Z]").matcher(text);
        while (m.find()) {
            n++;
        }
        check.holds("at most twelve classes: " + n, n >= 1 && n <= 12);
    }

    private static void methods(Check check, String text) {
        String[] lines = text.split("\n");
        Pattern head = Pattern.compile("^( {4}| {8})\\S.*\\((.*)\\) \\{$");
        for (int i = 0; i < lines.length; i++) {
            Matcher m = head.matcher(lines[i]);
            if (m.matches()) {
                int end = i;
                while (end < lines.length && !lines[end].equals(m.group(1) + "}")) {
                    end++;
                }
                check.holds("sixty lines at most: " + lines[i], end - i <= 60);
                check.holds("seven parameters at most: " + lines[i],
                        m.group(2).split(",").length <= 7);
            }
        }
    }
}
