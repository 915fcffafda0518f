import java.io.IOException;
import java.nio.file.Files;
import java.nio.file.Path;
import java.util.List;
import java.util.regex.Matcher;
import java.util.regex.Pattern;

/** Those rules of ../shared/LANGUAGE.md that the text of the file shows. */
public final class LanguageTest {
    private static final Path SOURCE = Path.of("src", "main", "java", "ChalkSquares.java");
    private static final String[] FORBIDDEN = {"\\bthrow\\b", "\\bthrows\\b", "\\btry\\b", "\\bcatch\\b", "\\bfinally\\b",
        "\\bsynchronized\\b", "\\bassert\\b", "->", "::", "\\bpackage\\b", "\\bstatic\\s*\\{", "\\bprotected\\b",
        "\\bequals\\s*\\(\\s*Object", "\\bhashCode\\b", "\\btoString\\b", "\\bRandom\\b", "\\bSystem\\.(?!arraycopy\\b)",
        "\\bThread\\b", "\\bvolatile\\b", "\\btransient\\b", "\\bnative\\b", "\\bvar\\b", "Exact\\b", "\\bnew\\s+\\w+\\s*\\([^)]*\\)\\s*\\{"};
    private static final int LONGEST_METHOD = 60;

    private final Check check = new Check("LanguageTest");

    public static void main(String[] args) throws IOException {
        LanguageTest test = new LanguageTest();
        String text = Files.readString(SOURCE);
        String code = withoutComments(text);
        test.signs(text);
        test.words(code);
        test.imports(code);
        test.methods(code.split("\n", -1));
        test.check.end();
    }

    private static String withoutComments(String text) {
        String code = text.replaceAll("(?s)/\\*.*?\\*/", "").replaceAll("//[^\n]*", "");
        return code.replaceAll("'(\\\\.|[^'])'", "'.'").replaceAll("\"[^\"]*\"", "\"\"");
    }

    private void signs(String text) {
        for (int i = 0; i < text.length(); i++) {
            if (text.charAt(i) > 126 || text.charAt(i) == '\t') {
                check.holds("the sign " + (int) text.charAt(i) + " at " + i + " is plain", false);
            }
        }
    }

    private void words(String code) {
        for (String word : FORBIDDEN) {
            Matcher m = Pattern.compile(word).matcher(code);
            check.holds("no " + word, !m.find());
        }
    }

    private void imports(String code) {
        List<String> allowed = List.of("java.util.Arrays", "java.util.ArrayList", "java.util.List", "java.util.Iterator");
        Matcher m = Pattern.compile("import ([\\w.*]+);").matcher(code);
        while (m.find()) {
            check.holds("the import of " + m.group(1), allowed.contains(m.group(1)));
        }
        check.due("full names of the library", Pattern.compile("[^t] java\\.").matcher(code).results().count(), 0);
    }

    private void methods(String[] lines) {
        Pattern head = Pattern.compile("^( {4}| {8})\\w[^=;]*\\(.*\\{$");
        for (int i = 0; i < lines.length; i++) {
            Matcher m = head.matcher(lines[i]);
            if (!m.matches()) {
                continue;
            }
            int end = i;
            while (end < lines.length && !lines[end].equals(m.group(1) + "}")) {
                end++;
            }
            check.holds(lines[i].trim() + " is short", end - i < LONGEST_METHOD);
            check.holds(lines[i].trim() + " has at most seven parameters", lines[i].split(",").length <= 7);
        }
    }
}
