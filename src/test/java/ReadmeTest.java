import java.io.IOException;
import java.lang.reflect.Method;
import java.lang.reflect.Modifier;
import java.nio.file.Files;
import java.nio.file.Path;
import java.util.Arrays;
import java.util.HashMap;
import java.util.Map;
import java.util.Set;
import java.util.TreeSet;
import java.util.regex.Matcher;
import java.util.regex.Pattern;

/** Runs the examples of README.md: each call must answer what the comment behind it begins with. */
public final class ReadmeTest {
    private static final Pattern MADE = Pattern.compile("SpanGraph (\\w+) = new SpanGraph\\(\\);.*");
    private static final Pattern CALL =
            Pattern.compile("(\\w+)\\.(\\w+)\\((.*?)\\); *// (NONE|true|false|\\d+)\\b.*");

    private static final Map<String, SpanGraph> objects = new HashMap<>();
    private static final Set<String> called = new TreeSet<>();
    private static int wrong = 0;

    public static void main(String[] args) throws IOException, ReflectiveOperationException {
        boolean example = false;
        for (String row : Files.readAllLines(Path.of("README.md"))) {
            if (row.startsWith("```")) {
                example = row.equals("```java");
            } else if (example) {
                run(row);
            }
        }
        for (Method method : publicMethods()) {
            require(called.contains(method.getName()), "no example has " + method.getName());
        }
        System.out.println(wrong == 0 ? "README.md tells what is so" : wrong + " faults in README.md");
        if (wrong != 0) {
            System.exit(1);
        }
    }

    private static void require(boolean holds, String text) {
        if (!holds) {
            wrong++;
            System.out.println(text);
        }
    }

    private static Method[] publicMethods() {
        return Arrays.stream(SpanGraph.class.getDeclaredMethods())
                .filter(method -> Modifier.isPublic(method.getModifiers()))
                .toArray(Method[]::new);
    }

    private static void run(String row) throws ReflectiveOperationException {
        Matcher made = MADE.matcher(row);
        Matcher call = CALL.matcher(row);
        if (made.matches()) {
            objects.put(made.group(1), new SpanGraph());
        } else if (call.matches() && objects.containsKey(call.group(1))) {
            String got = answer(objects.get(call.group(1)), call.group(2), call.group(3));
            String want = call.group(4).equals("NONE") ? "-1" : call.group(4);
            require(got.equals(want), row + " answered " + got);
            called.add(call.group(2));
        } else {
            require(false, "not an example: " + row);
        }
    }

    private static String answer(SpanGraph object, String name, String told)
            throws ReflectiveOperationException {
        String[] words = told.isEmpty() ? new String[0] : told.split(", ");
        for (Method method : publicMethods()) {
            if (method.getName().equals(name) && method.getParameterCount() == words.length) {
                Object[] given = new Object[words.length];
                for (int i = 0; i < words.length; i++) {
                    boolean truth = method.getParameterTypes()[i] == boolean.class;
                    given[i] = truth ? (Object) Boolean.valueOf(words[i]) : Integer.valueOf(words[i]);
                }
                return String.valueOf(method.invoke(object, given));
            }
        }
        return "nothing, as there is no such call";
    }
}
