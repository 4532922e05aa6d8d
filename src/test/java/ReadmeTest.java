import java.io.IOException;
import java.lang.reflect.InvocationTargetException;
import java.lang.reflect.Method;
import java.nio.file.Files;
import java.nio.file.Path;
import java.util.HashMap;
import java.util.HashSet;
import java.util.Map;
import java.util.Set;
import java.util.regex.Matcher;
import java.util.regex.Pattern;

/** Makes the calls that README.md shows, one behind the other: each answer is told behind it. */
public final class ReadmeTest {
    private static final Check CHECK = new Check("ReadmeTest");
    private static final Pattern LINE = Pattern.compile(
        "(?:int (\\w+) = )?x\\.(\\w+)\\(([^)]*)\\); *// (throws \\w+|-?[0-9.]+)(?:: .*)?");

    private final StaticLink x = new StaticLink();
    private final Map<String, Integer> kept = new HashMap<>();
    private final Set<String> shown = new HashSet<>();

    public static void main(String[] args) throws IOException {
        ReadmeTest test = new ReadmeTest();
        boolean isJava = false;
        for (String line : Files.readAllLines(Path.of("README.md"))) {
            if (line.startsWith("```")) {
                isJava = line.equals("```java");
            } else if (isJava && !line.equals("StaticLink x = new StaticLink();")) {
                test.make(line);
            }
        }
        for (Method method : StaticLink.class.getDeclaredMethods()) {
            boolean isPublic = java.lang.reflect.Modifier.isPublic(method.getModifiers());
            if (isPublic && !test.shown.contains(method.getName())) {
                CHECK.fail("README.md does not show " + method.getName());
            }
        }
        CHECK.end();
    }

    private void make(String line) {
        Matcher told = LINE.matcher(line);
        if (!told.matches()) {
            CHECK.fail("this is no call with its answer: " + line);
            return;
        }
        shown.add(told.group(2));
        String answer = answer(told.group(2), told.group(3).split(", *"));
        CHECK.due(line, answer, told.group(4));
        if (told.group(1) != null && answer.matches("-?[0-9]+")) {
            kept.put(told.group(1), Integer.parseInt(answer));
        }
    }

    private String answer(String name, String[] given) {
        Object[] handed = new Object[given[0].isEmpty() ? 0 : given.length];
        for (int k = 0; k < handed.length; k++) {
            Integer v = kept.get(given[k]);
            handed[k] = v != null ? v : Integer.valueOf(given[k]);
        }
        try {
            for (Method method : StaticLink.class.getDeclaredMethods()) {
                if (method.getName().equals(name)) {
                    return String.valueOf(method.invoke(x, handed));
                }
            }
            return "there is no " + name;
        } catch (InvocationTargetException e) {
            return "throws " + e.getCause().getClass().getSimpleName();
        } catch (IllegalAccessException e) {
            return "private";
        }
    }
}
