import java.io.IOException;
import java.lang.reflect.InvocationTargetException;
import java.lang.reflect.Method;
import java.nio.file.Files;
import java.nio.file.Path;
import java.util.ArrayList;
import java.util.Arrays;
import java.util.Comparator;
import java.util.LinkedHashMap;
import java.util.List;
import java.util.Map;
import java.util.Set;
import java.util.TreeSet;
import java.util.stream.Stream;

/** Runs the tests of the document's sentences, and holds their quotations against the document: it says each, and each of its words is in one. */
public final class SentencesTest {
    private static final Class<?>[] TESTS = {TermsSentences.class, TellingSentences.class, AskingSentences.class, KeepingSentences.class};
    private static int tests = 0;
    private static int wrong = 0;

    private SentencesTest() { }

    public static void main(String[] args) throws IOException, IllegalAccessException {
        Path project = Path.of(args.length > 0 ? args[0] : ".");
        Map<String, String> document = chaptersOf(Files.readAllLines(project.resolve("../shared/DOC.md")));
        Map<String, boolean[]> quoted = new LinkedHashMap<>();
        document.forEach((heading, text) -> quoted.put(heading, new boolean[text.length()]));
        checkFiles(project.resolve("src/test/java"));
        for (Class<?> file : TESTS) {
            for (Class<?> chapter : file.getDeclaredClasses()) {
                runChapter(chapter, document, quoted);
            }
        }
        document.forEach((heading, text) -> tellUnquoted(heading, text, quoted.get(heading)));
        System.out.println(tests + " sentences, " + Checks.checks + " checks, " + (wrong + Checks.wrong) + " wrong");
        if (wrong + Checks.wrong != 0) {
            System.exit(1);
        }
    }

    /** No file of sentences is left out. */
    private static void checkFiles(Path folder) throws IOException {
        Set<String> due = new TreeSet<>();
        for (Class<?> file : TESTS) {
            due.add(file.getSimpleName() + ".java");
        }
        Set<String> found = new TreeSet<>();
        try (Stream<Path> files = Files.list(folder)) {
            files.map(each -> each.getFileName().toString()).filter(each -> each.endsWith("Sentences.java")).forEach(found::add);
        }
        if (!due.equals(found)) {
            fault("the files of sentences are " + found + ", run are " + due);
        }
    }

    private static void fault(String text) {
        wrong++;
        System.out.println(text);
    }

    /** What stands under each heading, without the heads of the calls, which are the face. */
    private static Map<String, String> chaptersOf(List<String> lines) {
        Map<String, String> chapters = new LinkedHashMap<>();
        String heading = "";
        for (String line : lines) {
            if (line.startsWith("#")) {
                heading = line.replaceFirst("^#+ ", "").replaceFirst(":.*", "");
            } else if (!line.isBlank() && !line.startsWith("Ahead of the calls")) {
                String text = line.replaceFirst("^- ", "").replaceFirst("^`[^`]*\\([^`]*\\)[^`]*`: ", "");
                chapters.merge(heading, text, (before, next) -> before + "\n" + next);
            }
        }
        return chapters;
    }

    private static void runChapter(Class<?> chapter, Map<String, String> document, Map<String, boolean[]> quoted) throws IllegalAccessException {
        Says says = chapter.getAnnotation(Says.class);
        String heading = says == null ? "" : says.value()[0];
        if (!document.containsKey(heading)) {
            fault("the document has no heading for " + chapter.getSimpleName());
            return;
        }
        List<Method> methods = new ArrayList<>(Arrays.asList(chapter.getDeclaredMethods()));
        methods.sort(Comparator.comparing(Method::getName));
        for (Method method : methods) {
            Says words = method.getAnnotation(Says.class);
            if (words != null) {
                for (String each : words.value()) {
                    quote(heading, each, document.get(heading), quoted.get(heading));
                }
                run(heading, words.value()[0], method);
            }
        }
    }

    private static void quote(String heading, String words, String text, boolean[] quoted) {
        int place = text.indexOf(words);
        if (place < 0) {
            fault(heading + " does not say: " + words);
        }
        for (; place >= 0; place = text.indexOf(words, place + 1)) {
            Arrays.fill(quoted, place, place + words.length(), true);
        }
    }

    private static void run(String heading, String words, Method method) throws IllegalAccessException {
        int checksBefore = Checks.checks;
        int wrongBefore = Checks.wrong;
        tests++;
        try {
            method.invoke(null);
        } catch (InvocationTargetException e) {
            Checks.wrong++;
            System.out.println(method.getName() + " threw " + e.getCause());
        }
        if (Checks.checks == checksBefore) {
            fault(method.getName() + " checks nothing");
        }
        if (Checks.wrong != wrongBefore) {
            System.out.println("  so this does not hold (" + heading + ", " + method.getName() + "): " + words);
        }
    }

    private static void tellUnquoted(String heading, String text, boolean[] quoted) {
        if (!heading.startsWith("Promise") && !List.of("Terms", "ACTS", "Numbers", "Rolls").contains(heading)) {
            return;
        }
        StringBuilder rest = new StringBuilder();
        for (int i = 0; i < text.length(); i++) {
            rest.append(quoted[i] ? '\n' : text.charAt(i));
        }
        for (String each : rest.toString().split("\n")) {
            if (each.matches(".*\\w.*")) {
                fault("no test says, of " + heading + ": " + each);
            }
        }
    }
}
