import java.io.IOException;
import java.lang.reflect.Constructor;
import java.lang.reflect.Field;
import java.lang.reflect.Method;
import java.lang.reflect.Modifier;
import java.nio.file.Files;
import java.nio.file.Path;
import java.util.ArrayList;
import java.util.Arrays;
import java.util.Collections;
import java.util.List;

/** The public face as the document writes it, and what ../shared/LANGUAGE.md forbids at a glance. */
public final class FaceTest {

    private static final String I = "IndexOutOfBoundsException";
    private static final String A = "IllegalArgumentException";
    private static final String S = "IllegalStateException";

    private static final String[] METHODS = {
        "int stroke(int, int, int, int) " + A + " " + S, "int draw() " + A + " " + S,
        "int insert(int, int, int, int, int) " + I + " " + A + " " + S,
        "int change(int, int, int, int, int) " + I + " " + A, "int remove(int, int) " + I + " " + S,
        "int erase(int) " + I, "int simplify(int, int) " + I + " " + A, "int bake(int) " + I,
        "int set(int, int) " + I + " " + A, "int append(int) " + A + " " + S, "int clearBuffer()", "int firstError()",
        "int undo() " + S, "int keep(int) " + A, "int goBack(int) " + A + " " + S,
        "int point(int, int, int) " + I + " " + A, "int strokeOf(int, int) " + I + " " + A,
        "int distance(int, int, int, int) " + I, "int crossings(int) " + I, "int count(int) " + A,
        "int setting(int) " + I, "int nearest(int, int) " + A, "int ifSimplified(int, int, int) " + I + " " + A,
        "int leastBound(int, int, int) " + I + " " + A, "double share()"};

    private static final String[] FORBIDDEN = {"import ", "package ", "->", "::", "finally", "synchronized", "assert",
        "Exact(", "catch", "toString", "hashCode", "equals(", "@", "Thread", "Random", "nanoTime", "static {"};

    public static void main(String[] args) throws IOException {
        Check.due("the class", Modifier.toString(BrushStrokes.class.getModifiers()), "public final");
        methods();
        fields();
        constructors();
        for (Class<?> inside : BrushStrokes.class.getDeclaredClasses()) {
            Check.due(inside.getName(), Modifier.toString(inside.getModifiers()), "private static final");
        }
        source(Path.of(args.length > 0 ? args[0] : "src/main/java/BrushStrokes.java"));
        Check.end();
    }

    private static void methods() {
        List<String> publics = new ArrayList<>();
        List<String> names = new ArrayList<>();
        List<String> privates = new ArrayList<>();
        for (Method method : BrushStrokes.class.getDeclaredMethods()) {
            if (Modifier.isPrivate(method.getModifiers())) {
                privates.add(method.getName());
            } else {
                publics.add(line(method));
                names.add(method.getName());
            }
        }
        List<String> want = new ArrayList<>(Arrays.asList(METHODS));
        Collections.sort(publics);
        Collections.sort(want);
        Check.due("the methods", publics, want);
        Check.due("private methods with a public name", privates.removeAll(names), false);
    }

    private static String line(Method method) {
        StringBuilder line = new StringBuilder(method.getReturnType().getSimpleName());
        line.append(' ').append(method.getName()).append('(');
        for (int k = 0; k < method.getParameterCount(); k++) {
            line.append(k > 0 ? ", " : "").append(method.getParameterTypes()[k].getSimpleName());
        }
        line.append(')');
        for (Class<?> thrown : method.getExceptionTypes()) {
            line.append(' ').append(thrown.getSimpleName());
        }
        return line.toString();
    }

    private static void fields() {
        for (Field field : BrushStrokes.class.getDeclaredFields()) {
            String modifiers = Modifier.toString(field.getModifiers());
            String want = field.getName().equals("NONE") ? "public static final"
                    : modifiers.contains("static") ? "private static final" : "private final";
            Check.due(field.getName(), modifiers, want);
        }
    }

    private static void constructors() {
        Constructor<?>[] constructors = BrushStrokes.class.getDeclaredConstructors();
        Check.due("the constructors", constructors.length, 1);
        Check.due("its parameters", constructors[0].getParameterCount(), 0);
        Check.due("the constructor", Modifier.toString(constructors[0].getModifiers()), "public");
    }

    private static void source(Path file) throws IOException {
        String source = Files.readString(file);
        for (String forbidden : FORBIDDEN) {
            Check.due("'" + forbidden + "' in the program", source.contains(forbidden), false);
        }
        for (int k = 0; k < source.length(); k++) {
            if (source.charAt(k) > 126) {
                Check.due("the sign at " + k, (int) source.charAt(k), "1 to 126");
            }
        }
    }
}
