import java.io.IOException;
import java.lang.reflect.Method;
import java.lang.reflect.Modifier;
import java.net.URL;
import java.net.URLClassLoader;
import java.nio.file.Files;
import java.nio.file.Path;
import java.util.Comparator;
import java.util.List;
import java.util.regex.Matcher;
import java.util.regex.Pattern;
import java.util.stream.Stream;
import javax.tools.ToolProvider;

/** The calls that README.md shows compile, and answer what stands behind them. */
public final class ReadmeTest {
    private static final Pattern SHOWN = Pattern.compile("(?:(int \\w+) = )?(.*);\\s+// (-?\\d+|true|false|\\w+Exception)(?:: .*)?");
    private static int shown = 0;

    private ReadmeTest() { }

    public static void main(String[] args) throws Exception {
        Path project = Path.of(args.length > 0 ? args[0] : ".");
        List<String> readme = Files.readAllLines(project.resolve("README.md"));
        int wrong = run(programOf(readme)) + countUnshown(String.join("\n", readme));
        System.out.println(shown + " calls of README.md, " + wrong + " wrong");
        if (wrong != 0 || shown == 0) {
            System.exit(1);
        }
    }

    /** A class that makes the calls of all blocks of Java, in their order, as a reader would. */
    private static String programOf(List<String> readme) {
        StringBuilder program = new StringBuilder("public final class ReadmeUse {\n");
        program.append("  static int wrong = 0;\n");
        program.append("  static void due(String call, String want, Object got) { if (!want.equals(String.valueOf(got))) { wrong++; System.out.println(call + \" answered \" + got + \", shown is \" + want); } }\n");
        program.append("  public static int run() {\n");
        boolean inside = false;
        for (String row : readme) {
            if (row.startsWith("```")) {
                inside = row.equals("```java");
            } else if (inside) {
                program.append("    ").append(stepOf(row)).append("\n");
            }
        }
        return program.append("    return wrong;\n  }\n}\n").toString();
    }

    private static String stepOf(String row) {
        Matcher call = SHOWN.matcher(row);
        if (!call.matches()) {
            // A call without its answer is no such row, and fails to compile.
            return row.isEmpty() || row.contains(" = new Residentroll();") ? row : "shows no answer: " + row;
        }
        shown++;
        String made = call.group(1) == null ? "" : call.group(1).substring("int ".length()) + " = ";
        String shows = "due(\"" + call.group(2) + "\", \"" + call.group(3) + "\", ";
        String declares = made.isEmpty() ? "" : "int " + made + "0; ";
        return declares + "try { " + shows + made + call.group(2) + "); } catch (RuntimeException e) { " + shows + "e.getClass().getSimpleName()); }";
    }

    private static int run(String program) throws Exception {
        Path folder = Files.createTempDirectory("readme");
        try {
            Path source = folder.resolve("ReadmeUse.java");
            Files.writeString(source, program);
            int failed = ToolProvider.getSystemJavaCompiler().run(null, null, null, "-cp", System.getProperty("java.class.path"), "-d", folder.toString(), source.toString());
            if (failed != 0) {
                System.out.println("the calls of README.md do not compile");
                return 1;
            }
            try (URLClassLoader loader = new URLClassLoader(new URL[] {folder.toUri().toURL()})) {
                return (int) loader.loadClass("ReadmeUse").getMethod("run").invoke(null);
            }
        } finally {
            remove(folder);
        }
    }

    /** No call of the face is left out. */
    private static int countUnshown(String readme) {
        int unshown = 0;
        for (Method each : Residentroll.class.getDeclaredMethods()) {
            if (Modifier.isPublic(each.getModifiers()) && !readme.contains("land." + each.getName() + "(")) {
                System.out.println("README.md does not show " + each.getName());
                unshown++;
            }
        }
        return unshown;
    }

    private static void remove(Path folder) throws IOException {
        try (Stream<Path> files = Files.walk(folder)) {
            for (Path each : files.sorted(Comparator.reverseOrder()).toList()) {
                Files.delete(each);
            }
        }
    }
}
