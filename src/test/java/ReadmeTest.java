import java.io.ByteArrayOutputStream;
import java.io.IOException;
import java.io.PrintStream;
import java.lang.reflect.Method;
import java.lang.reflect.Modifier;
import java.nio.file.Files;
import java.nio.file.Path;
import java.util.TreeSet;
import java.util.regex.Matcher;
import java.util.regex.Pattern;

/** README.md against the class: its example, what that prints, and its tables of calls. */
public final class ReadmeTest {
    private static final Pattern CALL = Pattern.compile("(?m)^\\| `([a-z]+)\\(([^)]*)\\)` \\|");

    public static void main(String[] args) throws IOException {
        Checks checks = new Checks();
        String readme = Files.readString(Path.of("README.md"));
        checks.told("the example", Files.readString(Path.of("src/test/java/Example.java")), block(readme, "java"));
        checks.told("what it prints", printed(), block(readme, "text"));
        checks.told("the calls of the tables", face().toString(), calls(readme).toString());
        checks.end();
    }

    private static String block(String readme, String kind) {
        String opening = "```" + kind + "\n";
        int from = readme.indexOf(opening);
        int to = from < 0 ? -1 : readme.indexOf("```", from + opening.length());
        return to < 0 ? "no block of " + kind : readme.substring(from + opening.length(), to);
    }

    private static String printed() {
        PrintStream out = System.out;
        ByteArrayOutputStream kept = new ByteArrayOutputStream();
        System.setOut(new PrintStream(kept, true));
        try {
            Example.main(new String[0]);
        } finally {
            System.setOut(out);
        }
        return kept.toString().replace("\r\n", "\n");
    }

    private static TreeSet<String> face() {
        TreeSet<String> face = new TreeSet<>();
        for (Method m : SpectrumParts.class.getDeclaredMethods()) {
            if (Modifier.isPublic(m.getModifiers())) {
                face.add(m.getName() + " of " + m.getParameterCount());
            }
        }
        return face;
    }

    private static TreeSet<String> calls(String readme) {
        TreeSet<String> calls = new TreeSet<>();
        Matcher row = CALL.matcher(readme);
        while (row.find()) {
            int parameters = row.group(2).isEmpty() ? 0 : row.group(2).split(", ").length;
            calls.add(row.group(1) + " of " + parameters);
        }
        return calls;
    }
}
