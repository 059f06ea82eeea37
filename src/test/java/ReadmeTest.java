import java.io.IOException;
import java.lang.reflect.InvocationTargetException;
import java.lang.reflect.Method;
import java.lang.reflect.Modifier;
import java.nio.file.Files;
import java.nio.file.Path;
import java.util.List;
import java.util.regex.Matcher;
import java.util.regex.Pattern;

/** The examples of README.md answer what stands behind them, and its table has every call. */
public final class ReadmeTest {

    private static final String FRESH = "BrushStrokes sheet = new BrushStrokes();";
    private static final Pattern LINE = Pattern.compile("sheet\\.(\\w+)\\((.*)\\); +// (\\w+)(: .*)?");

    private static BrushStrokes sheet = new BrushStrokes();

    public static void main(String[] args) throws IOException, IllegalAccessException {
        List<String> lines = Files.readAllLines(Path.of("README.md"));
        boolean inside = false;
        int examples = 0;
        for (String line : lines) {
            if (line.startsWith("```")) {
                inside = line.equals("```java");
            } else if (inside) {
                example(line);
                examples++;
            }
        }
        Check.due("there are examples", examples > 0, true);
        table(String.join("\n", lines));
        Check.end();
    }

    private static void example(String line) throws IllegalAccessException {
        if (line.equals(FRESH)) {
            sheet = new BrushStrokes();
            return;
        }
        Matcher matcher = LINE.matcher(line);
        Check.due("'" + line + "' is a call with its answer", matcher.matches(), true);
        if (matcher.matches()) {
            Check.due(line, answer(matcher.group(1), numbers(matcher.group(2))), matcher.group(3));
        }
    }

    private static Object[] numbers(String arguments) {
        String[] texts = arguments.isEmpty() ? new String[0] : arguments.split(", ");
        Object[] numbers = new Object[texts.length];
        for (int k = 0; k < texts.length; k++) {
            numbers[k] = texts[k].startsWith("'") ? (int) texts[k].charAt(1) : Integer.parseInt(texts[k]);
        }
        return numbers;
    }

    private static String answer(String name, Object[] numbers) throws IllegalAccessException {
        for (Method method : BrushStrokes.class.getMethods()) {
            if (method.getName().equals(name) && method.getParameterCount() == numbers.length) {
                try {
                    return method.invoke(sheet, numbers).toString();
                } catch (InvocationTargetException e) {
                    return e.getCause().getClass().getSimpleName();
                }
            }
        }
        return "no call";
    }

    private static void table(String page) {
        for (Method method : BrushStrokes.class.getDeclaredMethods()) {
            if (Modifier.isPublic(method.getModifiers())) {
                Check.due("the table has " + method.getName(), page.contains("`" + method.getName() + "`"), true);
            }
        }
    }
}
