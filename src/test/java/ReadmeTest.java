import java.io.IOException;
import java.lang.reflect.InvocationTargetException;
import java.lang.reflect.Method;
import java.lang.reflect.Modifier;
import java.nio.file.Files;
import java.nio.file.Path;
import java.util.Set;
import java.util.TreeSet;
import java.util.regex.Matcher;
import java.util.regex.Pattern;

/** What README.md says: the calls of its example have the answers it gives, and it leaves out no method. */
public final class ReadmeTest {
    private static final Pattern CALL =
            Pattern.compile("facts\\.(\\w+)\\(([^)]*)\\); +// (true|false|-?\\d+)(?:: .*)?");
    private static final Pattern ROW = Pattern.compile("\\| [^|]+ \\| `(\\w+Test)` \\| ([^|]*) \\|");
    private static final Pattern QUOTED = Pattern.compile("`(\\w+)`");

    private ToldFacts facts = null;
    private final Set<String> called = new TreeSet<>();

    public static void main(String[] args) throws IOException, ReflectiveOperationException {
        eachMemberOfTheFaceIsTold();
        new ReadmeTest().theExample();
        theTableOfTests();
        Check.end("ReadmeTest");
    }

    private static void eachMemberOfTheFaceIsTold() throws IOException {
        String text = Files.readString(Pages.README);
        Check.due("members of the face", Pages.face().size(), 16);
        for (String member : Pages.face()) {
            Check.due("README.md tells of " + member, text.contains("`" + member + "`"), true);
        }
    }

    private void theExample() throws IOException, ReflectiveOperationException {
        for (String line : Pages.javaAfter(Pages.README, "### An example")) {
            if (line.equals("ToldFacts facts = new ToldFacts();")) {
                facts = new ToldFacts();
            } else {
                call(line);
            }
        }
        for (Method method : ToldFacts.class.getDeclaredMethods()) {
            if (Modifier.isPublic(method.getModifiers())) {
                Check.due("the example calls " + method.getName(), called.contains(method.getName()), true);
            }
        }
    }

    private void call(String line) throws IllegalAccessException, InvocationTargetException {
        Matcher matcher = CALL.matcher(line);
        boolean isCall = matcher.matches();
        Check.due("a call with its answer: " + line, isCall, true);
        for (Method method : ToldFacts.class.getDeclaredMethods()) {
            if (isCall && method.getName().equals(matcher.group(1))) {
                called.add(method.getName());
                Object answer = method.invoke(facts, arguments(method, matcher.group(2)));
                Check.due(line + " (it answers " + answer + ")", matcher.group(3).equals("" + answer), true);
            }
        }
    }

    private static Object[] arguments(Method method, String text) {
        Class<?>[] types = method.getParameterTypes();
        String[] words = text.isEmpty() ? new String[0] : text.split(", ");
        Object[] arguments = new Object[types.length];
        for (int i = 0; i < types.length; i++) {
            arguments[i] = types[i] == int.class ? (Object) Integer.valueOf(words[i]) : (Object) Long.valueOf(words[i]);
        }
        return arguments;
    }

    /** Each test that a row names is there, with the methods that the row names. */
    private static void theTableOfTests() throws IOException {
        int rows = 0;
        for (String line : Files.readAllLines(Pages.README)) {
            Matcher row = ROW.matcher(line);
            if (row.matches()) {
                rows++;
                Path test = Path.of("src/test/java/" + row.group(1) + ".java");
                String text = Files.exists(test) ? Files.readString(test) : "";
                Matcher named = QUOTED.matcher(row.group(2));
                while (named.find()) {
                    Check.due(row.group(1) + " has " + named.group(1), text.contains("void " + named.group(1) + "("),
                            true);
                }
            }
        }
        Check.due("a row for 'What it is', the face, 'Terms' and each promise", rows, 17);
    }
}
