import java.io.IOException;
import java.nio.file.Files;
import java.nio.file.Path;
import java.util.List;
import java.util.Map;
import java.util.Set;
import java.util.TreeMap;
import java.util.TreeSet;
import java.util.regex.Matcher;
import java.util.regex.Pattern;

/** What of LANGUAGE.md can be seen in the text of the class: words, library, methods, how deep calls go. */
public final class LanguageTest {
    private static final Path SOURCE = Path.of("src/main/java/ToldFacts.java");
    private static final String[] BARRED = {
        "\\bthrow\\b", "\\bthrows\\b", "\\btry\\b", "\\bcatch\\b", "\\bfinally\\b", "\\bsynchronized\\b",
        "\\bassert\\b", "\\bimport\\b", "\\bpackage\\b", "\\bprotected\\b", "->", "::", "\\bvar\\b", "\\bObject\\b",
        "\\bSystem\\b", "\\bequals\\b", "\\bhashCode\\b", "\\btoString\\b", "Exact\\b", "\\bnative\\b",
        "\\bvolatile\\b", "\\btransient\\b", "\\bstatic\\s*\\{", "\"", "'", "\\bdouble\\b", "\\bfloat\\b",
        "\\binstanceof\\b", "\\bdo\\b", "while \\(true", "for \\(;", "new \\w+\\([^)]*\\) \\{", "@"};
    private static final Set<String> CALLS_OF_THE_LIBRARY = Set.of("Long.bitCount", "Math.max");
    private static final Pattern HEAD = Pattern.compile("^( +)(?:public|private)[^=;(]* (\\w+)\\(([^)]*)\\) \\{$");
    private static final Pattern NAME = Pattern.compile("(?<!new )\\b([a-z]\\w*)\\(");
    private static final int LONGEST_METHOD = 60;
    private static final int DEEPEST_CALLS = 8;

    /** The names of the methods, all different, each with those of the class that it calls. */
    private final Map<String, Set<String>> calls = new TreeMap<>();

    public static void main(String[] args) throws IOException {
        String text = withoutComments(Files.readString(SOURCE));
        for (String barred : BARRED) {
            Check.due("the class has " + barred, Pattern.compile(barred).matcher(text).find(), false);
        }
        Matcher library = Pattern.compile("\\b(Math|Long|Integer|Arrays|String|List)\\.\\w+").matcher(text);
        while (library.find()) {
            Check.due(library.group() + " is one of the calls that were looked up",
                    CALLS_OF_THE_LIBRARY.contains(library.group()), true);
        }
        LanguageTest test = new LanguageTest();
        test.methodsAreShort(text.lines().toList());
        test.callsAreNotDeep();
        Check.end("LanguageTest");
    }

    private static String withoutComments(String text) {
        return text.replaceAll("(?s)/\\*.*?\\*/", "").replaceAll("//[^\n]*", "");
    }

    private void methodsAreShort(List<String> lines) {
        for (int i = 0; i < lines.size(); i++) {
            Matcher head = HEAD.matcher(lines.get(i));
            if (head.matches()) {
                int end = i;
                while (!lines.get(end).equals(head.group(1) + "}")) {
                    end++;
                }
                Check.due(head.group(2) + " is short", end - i < LONGEST_METHOD, true);
                Check.due(head.group(2) + " takes few", head.group(3).split(",").length <= 7, true);
                Check.due(head.group(2) + " is the only one of its name", calls.containsKey(head.group(2)), false);
                calls.put(head.group(2), namesIn(lines.subList(i + 1, end)));
            }
        }
        Check.due("methods were seen", calls.size() > 13, true);
    }

    private static Set<String> namesIn(List<String> body) {
        Set<String> names = new TreeSet<>();
        Matcher called = NAME.matcher(String.join("\n", body));
        while (called.find()) {
            names.add(called.group(1));
        }
        return names;
    }

    /** Rules 8 and 11: no method comes back to itself, and no chain of calls is longer than eight. */
    private void callsAreNotDeep() {
        int deepest = 0;
        for (String method : calls.keySet()) {
            deepest = Math.max(deepest, depthOf(method, 1));
        }
        Check.due("calls were seen", deepest > 2, true);
        Check.due("calls go " + deepest + " deep", deepest <= DEEPEST_CALLS, true);
    }

    private int depthOf(String method, int depth) {
        int deepest = depth;
        for (String called : calls.get(method)) {
            if (calls.containsKey(called) && depth <= DEEPEST_CALLS) {
                deepest = Math.max(deepest, depthOf(called, depth + 1));
            }
        }
        return deepest;
    }
}
