import java.io.IOException;
import java.lang.reflect.InvocationTargetException;
import java.lang.reflect.Method;
import java.lang.reflect.Modifier;
import java.nio.file.Files;
import java.nio.file.Path;
import java.util.ArrayList;
import java.util.HashMap;
import java.util.List;
import java.util.Map;
import java.util.regex.Matcher;
import java.util.regex.Pattern;
import java.util.stream.Stream;

/** README.md: its examples answer as it says, and it tells of every call, every refusal and every test. */
public final class ReadmeTest {
    private static final Check CHECK = new Check();
    private static final String MAKING = "MapCarrier x = new MapCarrier();";
    private static final Pattern CALL =
        Pattern.compile("(?:int (\\w+) = )?x\\.(\\w+)\\(([\\w, ]*)\\);\\s+// (throws \\w+|[-\\w.]+)(:.*)?");
    private static final String[] EXCEPTIONS =
        {"IndexOutOfBoundsException", "IllegalArgumentException", "IllegalStateException"};

    private MapCarrier x;
    private final Map<String, Integer> named = new HashMap<>();

    private ReadmeTest() {
    }

    public static void main(String[] args) throws IOException {
        List<String> page = Files.readAllLines(Path.of("README.md"));
        new ReadmeTest().runExamples(page);
        namesEveryCall(page);
        tellsEveryRefusal(page);
        namesEveryTest(page);
        CHECK.close();
    }

    private void runExamples(List<String> page) {
        boolean inside = false;
        int calls = 0;
        for (String line : page) {
            if (line.startsWith("```")) {
                inside = line.equals("```java");
            } else if (inside && line.equals(MAKING)) {
                x = new MapCarrier();
            } else if (inside) {
                runLine(line);
                calls++;
            }
        }
        CHECK.same("the page has examples", calls > 0, true);
    }

    private void runLine(String line) {
        Matcher call = CALL.matcher(line);
        if (!call.matches()) {
            CHECK.sameText("README.md", line, "a call and its answer");
            return;
        }
        Object answer = answer(call.group(2), call.group(3));
        CHECK.sameText(line, String.valueOf(answer), call.group(4));
        if (call.group(1) != null && answer instanceof Integer number) {
            named.put(call.group(1), number);
        }
    }

    private Object answer(String name, String list) {
        List<Object> numbers = new ArrayList<>();
        for (String word : list.isEmpty() ? new String[0] : list.split(", ")) {
            numbers.add(named.containsKey(word) ? named.get(word) : Integer.valueOf(word));
        }
        for (Method method : MapCarrier.class.getMethods()) {
            if (method.getName().equals(name) && method.getParameterCount() == numbers.size()) {
                return invoke(method, numbers.toArray());
            }
        }
        return "no such call";
    }

    private Object invoke(Method method, Object[] numbers) {
        try {
            return method.invoke(x, numbers);
        } catch (InvocationTargetException e) {
            return "throws " + e.getCause().getClass().getSimpleName();
        } catch (IllegalAccessException e) {
            return "can't be called";
        }
    }

    private static void namesEveryCall(List<String> page) {
        String text = String.join("\n", page);
        for (Method method : MapCarrier.class.getDeclaredMethods()) {
            if (Modifier.isPublic(method.getModifiers())) {
                String name = method.getName();
                CHECK.same("an example calls " + name, text.contains("x." + name + "("), true);
                CHECK.same("a refusal or none is told of " + name, text.contains("`" + name + "`"), true);
            }
        }
    }

    /** A cell of the table is empty just where the method does not throw the exception at the column's head. */
    private static void tellsEveryRefusal(List<String> page) {
        for (Method method : MapCarrier.class.getDeclaredMethods()) {
            if (method.getExceptionTypes().length == 0) {
                continue;
            }
            List<String> due = new ArrayList<>();
            for (Class<?> exception : method.getExceptionTypes()) {
                due.add(exception.getSimpleName());
            }
            CHECK.sameText("the table's row of " + method.getName(), toldOf(method.getName(), page), due.toString());
        }
    }

    private static String toldOf(String name, List<String> page) {
        List<String> told = new ArrayList<>();
        for (String line : page) {
            String[] cells = line.split("\\|");
            if (cells.length >= 5 && cells[1].contains("`" + name + "`")) {
                for (int i = 0; i < EXCEPTIONS.length; i++) {
                    if (!cells[i + 2].isBlank()) {
                        told.add(EXCEPTIONS[i]);
                    }
                }
            }
        }
        return told.toString();
    }

    private static void namesEveryTest(List<String> page) throws IOException {
        try (Stream<Path> files = Files.list(Path.of("src/test/java"))) {
            for (Path file : files.toList()) {
                String name = file.getFileName().toString().replace(".java", "");
                boolean told = page.stream().anyMatch(line -> line.startsWith("| `" + name + "` |"));
                CHECK.same(name + " has a row", told, name.endsWith("Test"));
            }
        }
    }
}
