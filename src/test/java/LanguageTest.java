import java.io.IOException;
import java.lang.reflect.Field;
import java.lang.reflect.Method;
import java.lang.reflect.Modifier;
import java.nio.file.Files;
import java.nio.file.Path;
import java.util.ArrayList;
import java.util.HashSet;
import java.util.List;
import java.util.Set;
import java.util.regex.Matcher;
import java.util.regex.Pattern;

/**
 * The rules of ../shared/LANGUAGE.md that can be read off the file's text or the compiled class,
 * told by their numbers. It is run in the project's folder, as .ci/run does.
 */
public final class LanguageTest {
    private static final Path FILE = Path.of("src/main/java/ScoreMachine.java");
    private static final Set<String> IMPORTS = Set.of("java.util.Arrays", "java.util.ArrayList",
            "java.util.List", "java.util.Iterator", "java.util.NoSuchElementException");
    private static final Set<String> THROWN = Set.of("IllegalStateException",
            "IllegalArgumentException", "IndexOutOfBoundsException", "ArithmeticException",
            "UnsupportedOperationException", "NoSuchElementException", "RuntimeException");
    private static final String LIBRARY = "System\\.arraycopy|Arrays\\.(copyOf|copyOfRange|fill)"
            + "|(Math|Integer|Long)\\.\\w+(?<!Exact)|List\\.of";
    private static int wrong = 0;

    public static void main(String[] args) throws IOException {
        String whole = Files.readString(FILE);
        String code = withoutCommentsAndTexts(whole);
        signs(whole);
        words(code);
        library(code);
        exceptions(code);
        lengths(code);
        List<Class<?>> classes = new ArrayList<>(List.of(ScoreMachine.class.getDeclaredClasses()));
        for (Class<?> inside : classes) {
            boolean shown = Modifier.isPublic(inside.getModifiers())
                    || Modifier.isProtected(inside.getModifiers());
            isTold(1, "a class inside is shown or not static: " + inside,
                    shown || !Modifier.isStatic(inside.getModifiers()));
        }
        classes.add(ScoreMachine.class);
        isTold(11, "too many classes: " + classes.size(), classes.size() > 12);
        for (Class<?> one : classes) {
            fields(one);
            methods(one);
        }
        System.out.println(wrong == 0 ? "the language is kept" : wrong + " breaches of the language");
        if (wrong != 0) {
            System.exit(1);
        }
    }

    private static void isTold(int rule, String words, boolean breach) {
        if (breach) {
            wrong++;
            System.out.println("rule " + rule + ": " + words);
        }
    }

    private static String withoutCommentsAndTexts(String whole) {
        return whole.replaceAll("(?s)/\\*.*?\\*/", "").replaceAll("//[^\n]*", "")
                .replaceAll("\"[^\"\n]*\"", "\"\"");
    }

    private static void signs(String whole) {
        isTold(4, "a sign is not one of 1 to 127", !whole.chars().allMatch(c -> c > 0 && c < 128));
        isTold(0, "there is a package line", Pattern.compile("(?m)^package ").matcher(whole).find());
    }

    private static void words(String code) {
        each(2, "(->|::)", code);
        each(5, "(\\bstatic\\s*\\{)", code);
        each(6, "\\b(finally|synchronized|assert|volatile|getMessage|equals|hashCode)\\b", code);
        each(13, "\\b(Random|Thread|Runtime|File|Instant|nanoTime|currentTimeMillis|getenv)\\b",
                code);
    }

    private static void each(int rule, String pattern, String code) {
        Matcher found = Pattern.compile(pattern).matcher(code);
        while (found.find()) {
            isTold(rule, "there is " + found.group(1), true);
        }
    }

    private static void library(String code) {
        Matcher imported = Pattern.compile("import ([^;]*);").matcher(code);
        while (imported.find()) {
            isTold(4, "imports " + imported.group(1), !IMPORTS.contains(imported.group(1)));
        }
        Matcher called = Pattern.compile("\\b([A-Z]\\w*\\.\\w+)\\(").matcher(code);
        while (called.find()) {
            isTold(4, "calls " + called.group(1), !called.group(1).matches(LIBRARY));
        }
    }

    private static void exceptions(String code) {
        Matcher thrown = Pattern.compile("\\bthrow (?:new (\\w+)\\((?:\"\")?\\);)?").matcher(code);
        while (thrown.find()) {
            isTold(6, "throws " + thrown.group(1),
                    thrown.group(1) == null || !THROWN.contains(thrown.group(1)));
        }
        // What the machine throws is not to be caught, by no name: so the class has no catch at all.
        each(6, "\\b(try|catch)\\b", code);
    }

    /** A method is what stands between a head at 4 or 8 signs' depth and the brace below it. */
    private static void lengths(String code) {
        String[] lines = code.split("\n");
        for (int i = 0; i < lines.length; i++) {
            String depth = lines[i].replaceAll("\\S.*", "");
            boolean head = lines[i].matches(" +[\\w\\[\\] ]+\\([^;]*") && depth.length() <= 8;
            int end = i;
            while (head && end < lines.length && !lines[end].equals(depth + "}")) {
                end++;
            }
            isTold(11, "a method of " + (end - i + 1) + " lines: " + lines[i], end - i + 1 > 60);
        }
    }

    private static void fields(Class<?> one) {
        int many = 0;
        for (Field f : one.getDeclaredFields()) {
            boolean isStatic = Modifier.isStatic(f.getModifiers());
            isTold(5, f + " is not final", isStatic && !Modifier.isFinal(f.getModifiers()));
            many += isStatic ? 0 : 1;
        }
        isTold(11, one + " has " + many + " fields", many > 20);
    }

    private static void methods(Class<?> one) {
        Set<String> face = new HashSet<>();
        for (Method m : ScoreMachine.class.getDeclaredMethods()) {
            if (Modifier.isPublic(m.getModifiers())) {
                face.add(m.getName());
            }
        }
        for (Method m : one.getDeclaredMethods()) {
            isTold(1, m + " bears a public one's name",
                    !Modifier.isPublic(m.getModifiers()) && face.contains(m.getName()));
            isTold(11, m + " takes too many", m.getParameterCount() > 7);
        }
    }
}
