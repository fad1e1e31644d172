import java.io.IOException;
import java.nio.file.Files;
import java.nio.file.Path;
import java.util.regex.Matcher;
import java.util.regex.Pattern;

/** What of the rules of ../shared/LANGUAGE.md can be seen from the text of the file. */
public final class LanguageTest {
    private static final Path FILE = Path.of("src/main/java/NoFartherThanAThrow.java");

    public static void main(String[] args) throws IOException {
        String source = Files.readString(FILE);
        String code = source.replaceAll("(?s)/\\*.*?\\*/", "").replaceAll("//[^\n]*", "")
            .replaceAll("\"[^\"\n]*\"", "\"\"").replaceAll("'[^']'", "' '");
        String[] none = {"\\bimport\\b", "\\bpackage\\b", "->", "::", "\\bcatch\\b", "\\btry\\b", "\\bfinally\\b",
            "\\bthrows?\\b", "\\bsynchronized\\b", "\\bassert\\b", "Exact\\b", "\\bstatic \\{", "\\bvar\\b", "\\+=? *\"",
            "\" *\\+", "\\bObject\\b", "\\bequals\\(", "\\bhashCode\\b", "\\btoString\\b", "\\bprotected\\b",
            "\\bwhile \\(true\\)", "\\bHashMap\\b", "\\bfloat\\b", "\\bdouble\\b", "\\blocal\\b", "System\\.(?!arraycopy)"};
        for (String pattern : none) {
            Matcher m = Pattern.compile(pattern).matcher(code);
            Due.due("'" + pattern + "'" + (m.find() ? " at " + m.start() : ""), m.reset().find() ? 1 : 0, 0);
        }
        Matcher classes = Pattern.compile("\\b(class|record|enum|interface) \\w+").matcher(code);
        int count = 0;
        while (classes.find()) {
            count++;
        }
        Due.due("twelve classes at most", count <= 12 ? 1 : 0, 1);
        for (int i = 0; i < source.length(); i++) {
            char c = source.charAt(i);
            Due.due("sign at " + i, c >= 1 && c <= 127 ? 1 : 0, 1);
        }
        statics(code);
        methods(code.split("\n"));
        Due.finish();
    }

    private static void statics(String code) {
        Matcher m = Pattern.compile("\\bstatic (?!final)([\\w\\[\\]]+ )+\\w+ *(=|;)").matcher(code);
        Due.due("static and not final", m.find() ? 1 : 0, 0);
    }

    private static void methods(String[] lines) {
        Pattern head = Pattern.compile("^ {4,8}(\\w[\\w\\[\\] ]*)\\(([^)]*)\\) \\{$");
        for (int i = 0; i < lines.length; i++) {
            Matcher m = head.matcher(lines[i]);
            if (m.find()) {
                int indent = lines[i].length() - lines[i].stripLeading().length();
                int end = i;
                while (!lines[end].equals(" ".repeat(indent) + "}")) {
                    end++;
                }
                Due.due("sixty lines: " + lines[i], end - i < 60 ? 1 : 0, 1);
                Due.due("seven parameters: " + lines[i], m.group(2).split(",").length <= 7 ? 1 : 0, 1);
            }
        }
    }
}
