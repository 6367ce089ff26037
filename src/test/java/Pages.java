import java.io.IOException;
import java.nio.file.Files;
import java.nio.file.Path;
import java.util.ArrayList;
import java.util.List;

/** The document and the README, for the tests that compare them with the class; .ci/run starts tests in the root. */
final class Pages {
    static final Path DOCUMENT = Path.of("../shared/DOC.md");
    static final Path README = Path.of("README.md");

    private Pages() {
    }

    /** The lines of the first Java block after a heading, without empty ones. */
    static List<String> javaAfter(Path page, String heading) throws IOException {
        List<String> block = new ArrayList<>();
        boolean isAfter = false;
        boolean isInside = false;
        for (String line : Files.readAllLines(page)) {
            if (isInside && line.equals("```")) {
                return block;
            }
            if (isInside && !line.isBlank()) {
                block.add(line.strip());
            }
            isAfter |= line.equals(heading);
            isInside |= isAfter && line.equals("```java");
        }
        return block;
    }

    /** The members of 'The public face', each as 'int desk()' or 'int NONE = -1'. */
    static List<String> face() throws IOException {
        List<String> members = new ArrayList<>();
        for (String line : javaAfter(DOCUMENT, "## The public face")) {
            if (line.endsWith(";")) {
                members.add(line.replace("public ", "").replace("static final ", "").replace(";", ""));
            }
        }
        return members;
    }
}
