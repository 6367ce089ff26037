import java.io.IOException;
import java.nio.file.Files;
import java.nio.file.Path;
import java.util.List;
import java.util.Set;
import java.util.regex.Matcher;
import java.util.regex.Pattern;

/** What of LANGUAGE.md can be seen in the text of the class: words, library, length of methods. */
public final class LanguageTest {
    private static final Path SOURCE = Path.of("src/main/java/ToldFacts.java");
    private static final String[] BARRED = {
        "\\bthrow\\b", "\\bthrows\\b", "\\btry\\b", "\\bcatch\\b", "\\bfinally\\b", "\\bsynchronized\\b",
        "\\bassert\\b",
        "\\bimport\\b", "\\bpackage\\b", "\\bprotected\\b", "->", "::", "\\bvar\\b", "\\bObject\\b", "\\bSystem\\b",
        "\\bequals\\b", "\\bhashCode\\b", "\\btoString\\b", "Exact\\b", "\\bnative\\b", "\\bvolatile\\b",
        "\\bstatic\\s*\\{", "\"", "'"};
    private static final Set<String> CALLS_OF_THE_LIBRARY = Set.of("Long.bitCount", "Math.max");
    private static final int LONGEST_METHOD = 60;

    public static void main(String[] args) throws IOException {
        String text = withoutComments(Files.readString(SOURCE));
        for (String barred : BARRED) {
            Check.due("the class has " + barred, Pattern.compile(barred).matcher(text).find(), false);
        }
        Matcher calls = Pattern.compile("\\b(Math|Long|Integer|Arrays|String|List)\\.\\w+").matcher(text);
        while (calls.find()) {
            Check.due(calls.group() + " is one of the calls that were looked up",
                    CALLS_OF_THE_LIBRARY.contains(calls.group()), true);
        }
        methodsAreShort(text);
        Check.end("LanguageTest");
    }

    private static String withoutComments(String text) {
        return text.replaceAll("(?s)/\\*.*?\\*/", "").replaceAll("//[^\n]*", "");
    }

    private static void methodsAreShort(String text) {
        List<String> lines = text.lines().toList();
        Pattern head = Pattern.compile("^( +)(?:public|private)[^=;]*\\(([^)]*)\\) \\{$");
        int methods = 0;
        for (int i = 0; i < lines.size(); i++) {
            Matcher matcher = head.matcher(lines.get(i));
            if (matcher.matches()) {
                methods++;
                int end = i;
                while (!lines.get(end).equals(matcher.group(1) + "}")) {
                    end++;
                }
                Check.due(lines.get(i).strip() + " is short", end - i < LONGEST_METHOD, true);
                Check.due(lines.get(i).strip() + " takes few", matcher.group(2).split(",").length <= 7, true);
            }
        }
        Check.due("methods were seen", methods > 13, true);
    }
}
