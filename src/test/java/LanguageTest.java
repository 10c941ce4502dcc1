import java.nio.charset.StandardCharsets;
import java.nio.file.Files;
import java.nio.file.Path;
import java.util.List;
import java.util.regex.Matcher;
import java.util.regex.Pattern;

/** What of ../shared/LANGUAGE.md can be told from the text of SkyWatchers.java; run at the root. */
public final class LanguageTest {
    private static final Due due = new Due("LanguageTest");

    public static void main(String[] args) throws java.io.IOException {
        byte[] bytes = Files.readAllBytes(Path.of("src/main/java/SkyWatchers.java"));
        String source = new String(bytes, StandardCharsets.ISO_8859_1);
        for (byte b : bytes) {
            due.is("a byte of the source is below 32 or above 126", b == '\n' || b >= 32 && b <= 126 ? 1 : 0, 1);
        }
        String code = source.replaceAll("(?s)/\\*.*?\\*/", "").replaceAll("//[^\n]*", "")
                .replaceAll("\"[^\"\n]*\"", "\"\"").replaceAll("'[^'\n]+'", "0");
        for (String word : List.of("throw", "throws", "try", "catch", "finally", "synchronized", "assert",
                "protected", "package", "var", "yield", "Object", "System.out", "Thread", "Random",
                "equals", "hashCode", "toString", "volatile", "native", "strictfp")) {
            due.is("the code says " + word, count(code, "\\b" + Pattern.quote(word) + "\\b"), 0);
        }
        due.is("lambdas", count(code, "->"), 0);
        due.is("method references", count(code, "::"), 0);
        due.is("annotations", count(code, "@"), 0);
        due.is("Math.addExact and its like", count(code, "Exact\\b"), 0);
        due.is("imports", count(code, "\\bimport\\b"), 2);
        due.is("import of ArrayList", count(code, "import java\\.util\\.ArrayList;"), 1);
        due.is("import of Arrays", count(code, "import java\\.util\\.Arrays;"), 1);
        due.is("classes beyond twelve", Math.max(0, count(code, "\\bclass\\b") - 12), 0);
        due.is("static fields that change", count(code, "\\bstatic (?!final)[\\w\\[\\]<>]+ \\w+ *[=;]"), 0);
        methods(code);
        due.end();
    }

    private static int count(String code, String shape) {
        int n = 0;
        for (Matcher m = Pattern.compile(shape).matcher(code); m.find(); ) {
            n++;
        }
        return n;
    }

    /** Methods begin with a line that ends in { and has brackets, 4 or 8 blanks in; they end as deep. */
    private static void methods(String code) {
        Pattern head = Pattern.compile("^( {4}| {8})(?! |\\}|if|for|while|switch)[^=;]*\\((.*)\\) \\{$");
        String[] lines = code.split("\n");
        int seen = 0;
        for (int i = 0; i < lines.length; i++) {
            Matcher m = head.matcher(lines[i]);
            if (!m.matches()) {
                continue;
            }
            int end = i;
            while (!lines[end].equals(m.group(1) + "}")) {
                end++;
            }
            seen++;
            due.is("lines beyond 60 of" + lines[i], Math.max(0, end - i + 1 - 60), 0);
            int parameters = m.group(2).isEmpty() ? 0 : m.group(2).split(",").length;
            due.is("parameters beyond 7 of" + lines[i], Math.max(0, parameters - 7), 0);
        }
        due.is("methods were found", seen > 60 ? 1 : 0, 1);
    }
}
