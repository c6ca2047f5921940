import java.io.IOException;
import java.lang.reflect.Method;
import java.lang.reflect.Modifier;
import java.nio.file.Files;
import java.nio.file.Path;
import java.util.ArrayList;
import java.util.List;
import java.util.regex.Matcher;
import java.util.regex.Pattern;

/** README.md tells the truth: its example is run line by line, and each call of the face is told. */
public final class ReadmeTests {
    private static final Pattern EXAMPLE = Pattern.compile("x\\.(\\w+)\\(([^)]*)\\);\\s+// (-?\\w+).*");

    private static int passed = 0;
    private static int wrong = 0;

    private static void due(String what, Object got, Object want) {
        if (got.equals(want)) {
            passed++;
            return;
        }
        wrong++;
        System.out.println(what + " is " + got + ", due is " + want);
    }

    private static List<Method> face() {
        List<Method> methods = new ArrayList<>();
        for (Method method : QueueHall.class.getDeclaredMethods()) {
            if (Modifier.isPublic(method.getModifiers())) {
                methods.add(method);
            }
        }
        return methods;
    }

    private static Method named(String name) {
        for (Method method : face()) {
            if (method.getName().equals(name)) {
                return method;
            }
        }
        throw new IllegalStateException("README.md calls " + name + ", which is not in the face");
    }

    private static Object[] arguments(Method method, String text) {
        String[] words = text.isEmpty() ? new String[0] : text.split(", ");
        Class<?>[] types = method.getParameterTypes();
        Object[] values = new Object[words.length];
        for (int i = 0; i < words.length; i++) {
            if (types[i] == boolean.class) {
                values[i] = Boolean.valueOf(words[i]);
            } else {
                values[i] = Integer.valueOf(words[i]);
            }
        }
        return values;
    }

    private static void exampleHolds(List<String> lines) throws ReflectiveOperationException {
        QueueHall x = new QueueHall();
        int seen = 0;
        for (String line : lines) {
            if (!line.startsWith("x.")) {
                continue;
            }
            seen++;
            Matcher call = EXAMPLE.matcher(line);
            if (call.matches()) {
                Method method = named(call.group(1));
                Object got = method.invoke(x, arguments(method, call.group(2)));
                due(line, String.valueOf(got), call.group(3));
            } else {
                due("a call with its answer in: " + line, false, true);
            }
        }
        due("whether there is an example", seen > 0, true);
    }

    private static void everyCallIsTold(List<String> lines) {
        for (Method method : face()) {
            boolean told = false;
            for (String line : lines) {
                told |= line.startsWith("| `" + method.getName() + "(");
            }
            due(method.getName() + " in a table", told, true);
        }
    }

    public static void main(String[] args) throws IOException, ReflectiveOperationException {
        List<String> lines = Files.readAllLines(Path.of("README.md"));
        exampleHolds(lines);
        everyCallIsTold(lines);
        System.out.println("ReadmeTests: " + passed + " passed, " + wrong + " failed");
        if (wrong != 0) {
            System.exit(1);
        }
    }
}
