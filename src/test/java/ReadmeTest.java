import java.io.IOException;
import java.lang.reflect.InvocationTargetException;
import java.lang.reflect.Method;
import java.lang.reflect.Modifier;
import java.nio.file.Files;
import java.nio.file.Path;
import java.util.regex.Matcher;
import java.util.regex.Pattern;

/** That README.md's example answers what its comments say, and that README.md tells of each call. */
public final class ReadmeTest {
    private static final Pattern LINE = Pattern.compile("book\\.(\\w+)\\(([-\\d, ]*)\\);\\s*// .*[ :](\\S+)");
    private static int wrong = 0;

    public static void main(String[] args) throws IOException {
        String text = Files.readString(Path.of("README.md"));
        int ran = runExample(text);
        tellsOfEachCall(text);
        System.out.println(wrong == 0 ? "README.md holds, its example has " + ran + " calls" : wrong + " faults");
        if (wrong != 0) {
            System.exit(1);
        }
    }

    private static void fault(String text) {
        wrong++;
        System.out.println(text);
    }

    private static int runExample(String text) {
        int from = text.indexOf("```java\n");
        int to = text.indexOf("```\n", from + 1);
        if (from < 0 || to < 0) {
            fault("README.md has no example");
            return 0;
        }
        TrainBook book = new TrainBook();
        int ran = 0;
        for (String line : text.substring(from, to).split("\n")) {
            if (line.startsWith("book.")) {
                runLine(book, line);
                ran++;
            }
        }
        if (ran == 0) {
            fault("README.md's example has no call");
        }
        return ran;
    }

    private static void runLine(TrainBook book, String line) {
        Matcher parts = LINE.matcher(line);
        if (!parts.matches()) {
            fault("a line that tells no answer: " + line);
            return;
        }
        String got = answer(book, parts.group(1), parts.group(2));
        if (!got.equals(parts.group(3))) {
            fault(line + ": answered " + got);
        }
    }

    private static String answer(TrainBook book, String name, String numbers) {
        String[] words = numbers.isEmpty() ? new String[0] : numbers.split(", ");
        Class<?>[] types = new Class<?>[words.length];
        Object[] values = new Object[words.length];
        for (int i = 0; i < words.length; i++) {
            types[i] = int.class;
            values[i] = Integer.parseInt(words[i]);
        }
        try {
            return String.valueOf(TrainBook.class.getMethod(name, types).invoke(book, values));
        } catch (NoSuchMethodException | IllegalAccessException | InvocationTargetException e) {
            return e.toString();
        }
    }

    private static void tellsOfEachCall(String text) {
        for (Method method : TrainBook.class.getDeclaredMethods()) {
            if (Modifier.isPublic(method.getModifiers()) && !text.contains("\n| `" + method.getName() + "(")) {
                fault("README.md does not tell of " + method.getName());
            }
        }
    }
}
