import java.io.IOException;
import java.lang.reflect.Constructor;
import java.lang.reflect.Field;
import java.lang.reflect.Member;
import java.lang.reflect.Method;
import java.lang.reflect.Modifier;
import java.nio.file.Files;
import java.nio.file.Path;
import java.util.Arrays;
import java.util.Set;
import java.util.TreeSet;
import java.util.regex.Matcher;
import java.util.regex.Pattern;

/** The class bears the document's face and nothing more, and its source keeps to the language's rules that a word shows. */
public final class FaceTest {
    private static int wrong = 0;

    public static void main(String[] args) throws IOException {
        Path project = Path.of(args.length > 0 ? args[0] : ".");
        String face = faceOf(Files.readString(project.resolve("../shared/DOC.md")));
        same("members", membersTold(face), membersMade());
        same("values of constants", constantsTold(face), constantsMade());
        hidesAllElse();
        keepsToTheRules(Files.readString(project.resolve("src/main/java/Residentroll.java")));
        System.out.println(wrong == 0 ? "the face is as due" : wrong + " faults of the face");
        if (wrong != 0) {
            System.exit(1);
        }
    }

    private static void fault(String text) {
        wrong++;
        System.out.println(text);
    }

    private static void same(String what, Set<String> due, Set<String> got) {
        if (!due.equals(got)) {
            fault(what + " are " + got + ", due is " + due);
        }
    }

    private static String faceOf(String document) {
        int from = document.indexOf("```java");
        return document.substring(from, document.indexOf("```", from + 3));
    }

    private static Set<String> membersTold(String face) {
        Set<String> told = new TreeSet<>();
        Matcher call = Pattern.compile("public (?:(\\w+) )?(\\w+)\\(([^)]*)\\)(?: throws ([^;]*))?;").matcher(face);
        while (call.find()) {
            StringBuilder types = new StringBuilder();
            for (String each : call.group(3).isEmpty() ? new String[0] : call.group(3).split(", ")) {
                types.append(each.split(" ")[0]).append(',');
            }
            Set<String> thrown = new TreeSet<>();
            if (call.group(4) != null) {
                thrown.addAll(Arrays.asList(call.group(4).split(", ")));
            }
            String answer = call.group(1) == null ? "" : call.group(1) + " ";
            told.add(answer + call.group(2) + "(" + types + ")" + thrown);
        }
        return told;
    }

    private static String signature(String start, Class<?>[] parameters, Class<?>[] exceptions) {
        StringBuilder types = new StringBuilder();
        for (Class<?> each : parameters) {
            types.append(each.getSimpleName()).append(',');
        }
        Set<String> thrown = new TreeSet<>();
        for (Class<?> each : exceptions) {
            thrown.add(each.getSimpleName());
        }
        return start + "(" + types + ")" + thrown;
    }

    private static Set<String> membersMade() {
        Set<String> made = new TreeSet<>();
        for (Constructor<?> each : Residentroll.class.getConstructors()) {
            made.add(signature("Residentroll", each.getParameterTypes(), each.getExceptionTypes()));
        }
        for (Method each : Residentroll.class.getDeclaredMethods()) {
            if (Modifier.isPublic(each.getModifiers())) {
                made.add(signature(each.getReturnType().getSimpleName() + " " + each.getName(), each.getParameterTypes(), each.getExceptionTypes()));
            }
        }
        return made;
    }

    private static Set<String> constantsTold(String face) {
        Set<String> told = new TreeSet<>();
        Matcher row = Pattern.compile("public static final int ([^;]*);").matcher(face);
        while (row.find()) {
            told.addAll(Arrays.asList(row.group(1).split(", ")));
        }
        return told;
    }

    private static Set<String> constantsMade() {
        Set<String> made = new TreeSet<>();
        for (Field each : Residentroll.class.getFields()) {
            try {
                made.add(each.getName() + " = " + each.getInt(null));
            } catch (IllegalAccessException e) {
                fault(each + " can't be read");
            }
        }
        return made;
    }

    private static void hidesAllElse() {
        if (!Modifier.isFinal(Residentroll.class.getModifiers())) {
            fault("the class is not final");
        }
        Set<String> open = new TreeSet<>();
        for (Method each : Residentroll.class.getDeclaredMethods()) {
            if (Modifier.isPublic(each.getModifiers())) {
                open.add(each.getName());
            }
        }
        for (Method each : Residentroll.class.getDeclaredMethods()) {
            checkHidden(each);
            if (Modifier.isPrivate(each.getModifiers()) && open.contains(each.getName())) {
                fault(each + " bears the name of a public one");
            }
        }
        for (Field each : Residentroll.class.getDeclaredFields()) {
            checkHidden(each);
            checkStatic(each);
        }
        for (Class<?> inside : Residentroll.class.getDeclaredClasses()) {
            for (Field each : inside.getDeclaredFields()) {
                checkStatic(each);
            }
            for (Method each : inside.getDeclaredMethods()) {
                if (open.contains(each.getName())) {
                    fault(each + " bears the name of a public one");
                }
            }
        }
    }

    private static void checkHidden(Member member) {
        if (!Modifier.isPublic(member.getModifiers()) && !Modifier.isPrivate(member.getModifiers())) {
            fault(member + " is neither public nor private");
        }
    }

    private static void checkStatic(Field field) {
        if (Modifier.isStatic(field.getModifiers()) && !Modifier.isFinal(field.getModifiers())) {
            fault(field + " is static and not final");
        }
    }

    private static void keepsToTheRules(String source) {
        Set<String> imports = new TreeSet<>();
        Matcher each = Pattern.compile("(?m)^import ([^;]*);").matcher(source);
        while (each.find()) {
            imports.add(each.group(1));
        }
        imports.removeAll(Set.of("java.util.ArrayList", "java.util.Arrays", "java.util.Iterator", "java.util.List", "java.util.NoSuchElementException"));
        same("imports beyond the rules", Set.of(), imports);
        String code = source.replaceAll("(?s)/\\*.*?\\*/", "").replaceAll("//[^\n]*", "").replaceAll("\"[^\"]*\"", "\"\"");
        for (String banned : new String[] {
            "\\btry\\b", "\\bcatch\\b", "\\bfinally\\b", "\\bsynchronized\\b", "\\bassert\\b", "\\bvar\\b", "->", "::",
            "\\bSystem\\.(?!arraycopy)", "Exact\\(", "\"\\s*\\+", "\\+\\s*\"", "\\bwhile \\(true\\)", "\\bequals\\(Object", "\\bhashCode\\b", "\\btoString\\(\\) \\{",
        }) {
            if (Pattern.compile(banned).matcher(code).find()) {
                fault("the source has " + banned);
            }
        }
        if (Pattern.compile("(?m)^package ").matcher(source).find()) {
            fault("the source has a package line");
        }
        checkLengths(code);
    }

    private static void checkLengths(String code) {
        Matcher head = Pattern.compile("(?m)^( +)(?:private|public)[^;={]*\\(([^)]*)\\)[^;={]*\\{$").matcher(code);
        while (head.find()) {
            int end = code.indexOf("\n" + head.group(1) + "}\n", head.end());
            long lines = code.substring(head.start(), end < 0 ? code.length() : end).lines().count();
            if (lines > 60) {
                fault("a method of " + lines + " lines: " + head.group().trim());
            }
            if (head.group(2).split(",").length > 7) {
                fault("too many parameters: " + head.group().trim());
            }
        }
    }
}
