import java.io.IOException;
import java.lang.reflect.InvocationTargetException;
import java.lang.reflect.Method;
import java.lang.reflect.Modifier;
import java.nio.file.Files;
import java.nio.file.Path;
import java.util.regex.Matcher;
import java.util.regex.Pattern;

/**
 * The example of README.md: each row's call answers what stands behind it, and every call of the
 * face is told there. It is run in the project's folder, as .ci/run does.
 */
public final class ReadmeTest {
    private static final Pattern EXAMPLE = Pattern.compile("```java\n(.*?)```", Pattern.DOTALL);
    private static final Pattern ROW =
            Pattern.compile("x\\.(\\w+)\\(([-0-9, ]*)\\); +// (?:([-\\w]+): )?.*");
    private static int wrong = 0;

    public static void main(String[] args) throws IOException {
        String readme = Files.readString(Path.of("README.md"));
        Matcher example = EXAMPLE.matcher(readme);
        int rows = example.find() ? runExample(example.group(1)) : 0;
        if (rows == 0) {
            tell("the README has no example");
        }
        for (Method m : ScoreMachine.class.getDeclaredMethods()) {
            if (Modifier.isPublic(m.getModifiers())
                    && !readme.contains("`" + m.getName() + "(")) {
                tell("the README does not tell of " + m.getName());
            }
        }
        System.out.println(rows + " rows of the README, " + wrong + " are not as due");
        if (wrong != 0) {
            System.exit(1);
        }
    }

    private static void tell(String words) {
        wrong++;
        System.out.println(words);
    }

    private static int runExample(String example) {
        ScoreMachine x = new ScoreMachine();
        String[] lines = example.split("\n");
        for (int i = 1; i < lines.length; i++) {
            Matcher row = ROW.matcher(lines[i]);
            if (!row.matches()) {
                tell("no call with its answer: " + lines[i]);
                continue;
            }
            String due = row.group(3) == null ? "null" : row.group(3);
            String got = answer(x, row.group(1), row.group(2));
            if (!got.equals(due)) {
                tell(lines[i] + " answered " + got);
            }
        }
        return lines.length - 1;
    }

    private static String answer(ScoreMachine x, String name, String texts) {
        String[] parts = texts.isEmpty() ? new String[0] : texts.split(", ");
        Object[] values = new Object[parts.length];
        Class<?>[] types = new Class<?>[parts.length];
        for (int i = 0; i < parts.length; i++) {
            boolean isLong = name.equals("set") && i == 2;
            values[i] = isLong ? (Object) Long.valueOf(parts[i]) : Integer.valueOf(parts[i]);
            types[i] = isLong ? long.class : int.class;
        }
        try {
            return String.valueOf(ScoreMachine.class.getMethod(name, types).invoke(x, values));
        } catch (InvocationTargetException e) {
            return e.getCause().getClass().getSimpleName();
        } catch (NoSuchMethodException | IllegalAccessException e) {
            return "there is no such call";
        }
    }
}
