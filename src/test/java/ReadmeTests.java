import java.io.IOException;
import java.lang.reflect.Method;
import java.lang.reflect.Modifier;
import java.nio.file.Files;
import java.nio.file.Path;
import java.util.ArrayList;
import java.util.List;
import java.util.Set;
import java.util.TreeSet;
import java.util.regex.Matcher;
import java.util.regex.Pattern;

/** The examples of README.md, each against the answer that stands behind it; no call of the class may be left out. */
public final class ReadmeTests extends Asking {
    private static final String NEW = "DoorsRemember x = new DoorsRemember();";
    private static final Pattern CALL = Pattern.compile("x\\.(\\w+)\\((.*)\\); +// (-?\\d+)(?:: .*)?");
    private static final Pattern READ = Pattern.compile("read\\(x, (\".*\")\\); +// (-?\\d+)(?:: .*)?");

    private static final Set<String> shown = new TreeSet<>();

    public static void main(String[] args) throws IOException {
        StringBuilder script = new StringBuilder();
        for (String line : exampleLines()) script.append(asScript(line)).append('\n');
        Script.run("README.md", script.toString());
        Set<String> offered = new TreeSet<>();
        for (Method m : DoorsRemember.class.getDeclaredMethods()) {
            if (Modifier.isPublic(m.getModifiers())) offered.add(m.getName());
        }
        offered.removeAll(shown);
        due("README.md shows no " + offered + ": how many it leaves out", offered.size(), 0);
        end("in the examples of README.md");
    }

    /** The lines of the java blocks; a block that declares a helper is no run of calls. */
    private static List<String> exampleLines() throws IOException {
        List<String> lines = new ArrayList<>();
        boolean inside = false;
        for (String line : Files.readAllLines(Path.of("README.md"))) {
            if (line.startsWith("```")) inside = line.equals("```java");
            else if (inside && line.startsWith("static ")) inside = false;
            else if (inside) lines.add(line);
        }
        return lines;
    }

    private static String asScript(String line) {
        if (line.startsWith(NEW)) return "new";
        Matcher call = CALL.matcher(line);
        if (call.matches()) {
            shown.add(call.group(1));
            return call.group(1) + "(" + call.group(2) + ") = " + call.group(3);
        }
        Matcher read = READ.matcher(line);
        if (read.matches()) return "say " + read.group(1) + "\ntext() = " + read.group(2);
        throw new IllegalStateException("README.md: no answer stands behind " + line);
    }
}
