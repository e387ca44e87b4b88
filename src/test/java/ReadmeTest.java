import java.io.IOException;
import java.lang.reflect.Method;
import java.lang.reflect.Modifier;
import java.net.URL;
import java.net.URLClassLoader;
import java.nio.file.Files;
import java.nio.file.Path;
import java.util.ArrayList;
import java.util.List;
import java.util.regex.Matcher;
import java.util.regex.Pattern;
import javax.tools.ToolProvider;

/** README.md tells of each call what it answers and refuses, and the calls of its example answer what stands behind them. */
public final class ReadmeTest {
    private static final Pattern BLOCK = Pattern.compile("(?s)```java\n(.*?)```");
    /** A call of the example, with its answer behind it; a name for the answer may stand ahead. */
    private static final Pattern CALL = Pattern.compile("(int \\w+ = )?(x\\.\\w+\\(.*\\)); +// (-?\\d+)(:.*)?");
    private static int wrong = 0;

    private static void check(boolean holds, String what) {
        if (!holds) {
            wrong++;
            System.out.println("not so: " + what);
        }
    }

    private static List<Method> face() {
        List<Method> all = new ArrayList<>();
        for (Method m : AskTree.class.getDeclaredMethods()) if (Modifier.isPublic(m.getModifiers())) all.add(m);
        return all;
    }

    /** The call as the document writes it, its types left out: "sort(mark, how)". */
    private static String asTheDocumentWrites(Method m, String document) {
        Matcher row = Pattern.compile("public int " + m.getName() + "\\((.*)\\);").matcher(document);
        return row.find() ? m.getName() + "(" + row.group(1).replace("int ", "") + ")" : "?";
    }

    private static void checkRows(String readme, String document) {
        for (Method m : face()) {
            String call = asTheDocumentWrites(m, document);
            // the call, what it answers, what it refuses
            Pattern row = Pattern.compile("(?m)^\\| `" + Pattern.quote(call) + "` \\| [^|]+ \\| -\\d+: [^|]+ \\|$");
            check(row.matcher(readme).find(), "a row tells of " + call);
        }
    }

    private static void checkNamesOfTests(String readme) throws IOException {
        try (var files = Files.list(Path.of("src/test/java"))) {
            for (Path p : files.toList()) {
                String name = p.getFileName().toString().replace(".java", "");
                if (name.endsWith("Test")) check(readme.contains("`" + name + "`"), "the page tells of " + name);
            }
        }
        check(readme.contains("../shared/tests"), "the page tells of the tests under ../shared/tests");
    }

    /** The example as a class whose main answers how many calls of it do not answer as they should. */
    private static String program(String helper, String example) {
        StringBuilder made = new StringBuilder("public final class Example {\n static int wrong = 0;\n" + helper);
        made.append(" static int due(String call, int got, int want) {\n  if (got != want) { wrong++;\n");
        made.append("   System.out.println(\"README.md: \" + call + \" answered \" + got + \", due is \" + want); }\n  return got; }\n");
        made.append(" public static int run() {\n");
        for (String line : example.split("\n")) {
            Matcher call = CALL.matcher(line);
            boolean isCall = call.matches();
            check(isCall || line.isEmpty() || line.equals("AskTree x = new AskTree();"), "an answer stands behind: " + line);
            if (!isCall) {
                made.append(line).append('\n');
                continue;
            }
            String name = call.group(1) == null ? "" : call.group(1);
            made.append(name).append("due(\"").append(call.group(2)).append("\", ");
            made.append(call.group(2)).append(", ").append(call.group(3)).append(");\n");
        }
        return made.append("  return wrong;\n }\n}\n").toString();
    }

    private static void checkExample(String readme) throws IOException, ReflectiveOperationException {
        Matcher blocks = BLOCK.matcher(readme);
        check(blocks.find(), "the page has a helper");
        String helper = blocks.group(1);
        check(blocks.find(), "the page has an example");
        String example = blocks.group(1);
        for (Method m : face()) check(example.contains("x." + m.getName() + "("), "the example calls " + m.getName());
        Path made = Files.createTempDirectory("readme");
        Path source = made.resolve("Example.java");
        Files.writeString(source, program(helper, example));
        int compiled = ToolProvider.getSystemJavaCompiler().run(null, null, null, "-cp", System.getProperty("java.class.path"),
            "-d", made.toString(), source.toString());
        check(compiled == 0, "the example can be compiled");
        if (compiled == 0) {
            try (URLClassLoader loader = new URLClassLoader(new URL[] {made.toUri().toURL()})) {
                wrong += (int) loader.loadClass("Example").getMethod("run").invoke(null);
            }
        }
        Files.deleteIfExists(made.resolve("Example.class"));
        Files.delete(source);
        Files.delete(made);
    }

    public static void main(String[] args) throws IOException, ReflectiveOperationException {
        String readme = Files.readString(Path.of("README.md"));
        checkRows(readme, Files.readString(Path.of("../shared/DOC.md")));
        checkNamesOfTests(readme);
        checkExample(readme);
        System.out.println(wrong == 0 ? "README.md says what the class does" : wrong + " things are not so");
        if (wrong != 0) System.exit(1);
    }
}
