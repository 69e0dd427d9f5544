import java.io.File;
import java.lang.reflect.Method;
import java.lang.reflect.Modifier;
import java.net.URL;
import java.net.URLClassLoader;
import java.nio.file.Files;
import java.nio.file.Path;
import java.util.Set;
import java.util.TreeSet;
import java.util.regex.Matcher;
import java.util.regex.Pattern;
import javax.tools.ToolProvider;

/** The examples of README.md compile, each call answers as told behind it, and no call of the face is left out. */
public final class ReadmeTells extends Checks {
    private static final Pattern EXAMPLE = Pattern.compile("(?s)```java\n(.*?)```");
    private static final Pattern CALL = Pattern.compile("x\\.(\\w+)\\(.*?\\);(?: +// (-?\\d+)\\b.*)?");
    private static final Pattern OTHER = Pattern.compile("GateTurns x = new GateTurns\\(\\);|tell\\(x, \".*\"\\);");

    private final Set<String> shown = new TreeSet<>();
    private final StringBuilder helpers = new StringBuilder();
    private final StringBuilder bodies = new StringBuilder();
    private int answers = 0;

    /** A line with a call becomes one that compares its answer with the one that is told. */
    private void takeLine(String line) {
        Matcher call = CALL.matcher(line);
        if (!call.matches()) {
            due("an example has only calls: " + line, OTHER.matcher(line).matches() ? 1 : 0, 1);
            bodies.append(line).append('\n');
            return;
        }
        due("an answer is told: " + line, call.group(2) == null ? 0 : 1, 1);
        shown.add(call.group(1));
        answers++;
        String code = line.substring(0, line.indexOf(';'));
        bodies.append("due(\"").append(code).append("\", ").append(code).append(", ").append(call.group(2)).append(");\n");
    }

    private void takeExample(String code) {
        if (code.startsWith("static ")) {
            helpers.append(code);
            shown.add("feed");
            return;
        }
        bodies.append("{\n");
        for (String line : code.split("\n")) {
            takeLine(line);
        }
        bodies.append("}\n");
    }

    private String program() {
        return "public class Examples {\nstatic StringBuilder wrong = new StringBuilder();\n"
                + "static void due(String call, int got, int want) {\nif (got != want) {\n"
                + "wrong.append(call + \" answered \" + got + \", README.md says \" + want + \"\\n\");\n}\n}\n"
                + helpers + "public static String wrongOnes() {\n" + bodies + "return wrong.toString();\n}\n}\n";
    }

    private String compileAndRun() throws Exception {
        Path folder = Files.createTempDirectory("readme");
        Path file = folder.resolve("Examples.java");
        Files.writeString(file, program());
        int failed = ToolProvider.getSystemJavaCompiler().run(null, null, null, "-cp",
                System.getProperty("java.class.path"), "-d", folder.toString(), file.toString());
        String wrongOnes = "the examples do not compile";
        if (failed == 0) {
            try (URLClassLoader loader = new URLClassLoader(new URL[] {folder.toUri().toURL()})) {
                wrongOnes = (String) loader.loadClass("Examples").getMethod("wrongOnes").invoke(null);
            }
        }
        for (File made : folder.toFile().listFiles()) {
            made.delete();
        }
        folder.toFile().delete();
        return wrongOnes;
    }

    private void everyCallIsShown() {
        for (Method m : GateTurns.class.getDeclaredMethods()) {
            if (Modifier.isPublic(m.getModifiers())) {
                due("README.md shows " + m.getName(), shown.contains(m.getName()) ? 1 : 0, 1);
            }
        }
    }

    public static void main(String[] args) throws Exception {
        where = "README.md";
        ReadmeTells examples = new ReadmeTells();
        Matcher example = EXAMPLE.matcher(Files.readString(Path.of("README.md")));
        while (example.find()) {
            examples.takeExample(example.group(1));
        }
        due("it has answers", examples.answers > 50 ? 1 : 0, 1);
        dueText("wrong answers", examples.compileAndRun(), "");
        examples.everyCallIsShown();
        end(examples.answers + " answers are as README.md tells");
    }
}
