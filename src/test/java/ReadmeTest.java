import java.io.IOException;
import java.lang.reflect.InvocationTargetException;
import java.lang.reflect.Method;
import java.lang.reflect.Modifier;
import java.nio.file.Files;
import java.nio.file.Path;
import java.util.ArrayList;
import java.util.List;
import java.util.Set;
import java.util.TreeSet;
import java.util.regex.Matcher;
import java.util.regex.Pattern;

/** README.md: each call of its example answers what stands behind it, and each method of the face is shown. */
public final class ReadmeTest {
    private static final Pattern CALL = Pattern.compile("bench\\.(\\w+)\\((.*)\\); +// ([^:]+)(: .+)?");

    public static void main(String[] args) throws IOException, IllegalAccessException {
        Check check = new Check();
        List<String> example = javaBlock(Files.readAllLines(Path.of("README.md")));
        check.same("the example has lines", !example.isEmpty(), true);
        PieceBench bench = null;
        Set<String> shown = new TreeSet<>();
        for (String line : example) {
            Matcher call = CALL.matcher(line);
            if (bench == null) {
                check.same("the first line", line, "PieceBench bench = new PieceBench();");
                bench = new PieceBench();
            } else if (call.matches()) {
                check.same(line, answer(bench, call.group(1), call.group(2)), call.group(3));
                shown.add(call.group(1));
            } else {
                check.same("a line of the example", line, "a call with its answer");
            }
        }
        check.same("the methods that are shown", shown.toString(), publicMethods().toString());
        check.end();
    }

    private static List<String> javaBlock(List<String> page) {
        int begin = page.indexOf("```java") + 1;
        List<String> block = new ArrayList<>();
        for (int k = begin; begin > 0 && k < page.size() && !page.get(k).equals("```"); k++) {
            block.add(page.get(k));
        }
        return block;
    }

    private static String answer(PieceBench bench, String name, String arguments) throws IllegalAccessException {
        String[] written = arguments.isEmpty() ? new String[0] : arguments.split(", ");
        for (Method method : PieceBench.class.getDeclaredMethods()) {
            if (Modifier.isPublic(method.getModifiers()) && method.getName().equals(name)
                    && method.getParameterCount() == written.length) {
                try {
                    return String.valueOf(method.invoke(bench, values(method.getParameterTypes(), written)));
                } catch (InvocationTargetException e) {
                    return "throws " + e.getCause().getClass().getSimpleName();
                }
            }
        }
        return "no such method";
    }

    private static Object[] values(Class<?>[] types, String[] written) {
        Object[] values = new Object[written.length];
        for (int k = 0; k < written.length; k++) {
            long value = Long.decode(written[k]);
            if (types[k] == int.class) {
                values[k] = Math.toIntExact(value);
            } else {
                values[k] = value;
            }
        }
        return values;
    }

    private static Set<String> publicMethods() {
        Set<String> names = new TreeSet<>();
        for (Method method : PieceBench.class.getDeclaredMethods()) {
            if (Modifier.isPublic(method.getModifiers())) {
                names.add(method.getName());
            }
        }
        return names;
    }
}
