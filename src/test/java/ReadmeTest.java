import java.io.IOException;
import java.lang.reflect.Method;
import java.lang.reflect.Modifier;
import java.nio.file.Files;
import java.nio.file.Path;
import java.util.Set;
import java.util.TreeSet;
import java.util.regex.Matcher;
import java.util.regex.Pattern;

/** The calls that README.md shows are made, and must have the answers that it tells for them. */
public final class ReadmeTest {
    private static final String MAKING = "TickWalks walks = new TickWalks\\(\\);( +//.*)?";
    private static final Pattern CALL =
        Pattern.compile("walks\\.(\\w+)\\(([^()]*)\\); +// (true|false|-?\\d+)(: .+)?");

    private final Checks checks = new Checks();
    private final Set<String> shown = new TreeSet<>();
    private TickWalks walks = null;

    public static void main(String[] args) throws IOException, ReflectiveOperationException {
        ReadmeTest test = new ReadmeTest();
        test.read(Files.readString(Path.of("README.md")));
        test.checks.due("the calls that README.md shows", test.shown.toString(), face().toString());
        test.checks.end();
    }

    private void read(String readme) throws ReflectiveOperationException {
        boolean inJava = false;
        int number = 0;
        for (String line : readme.split("\n")) {
            number++;
            if (line.startsWith("```")) {
                inJava = line.equals("```java");
                // Each block begins with an object of its own.
                walks = null;
            } else if (inJava) {
                follow("README.md, line " + number + ": ", line);
            } else {
                checks.due("README.md, line " + number + " shows an answer outside a block of Java",
                    CALL.matcher(line).find(), false);
            }
        }
    }

    private void follow(String where, String line) throws ReflectiveOperationException {
        Matcher call = CALL.matcher(line);
        if (line.matches(MAKING)) {
            walks = new TickWalks();
        } else if (call.matches() && walks != null) {
            shown.add(call.group(1));
            checks.due(where + call.group(1) + "(" + call.group(2) + ")",
                String.valueOf(answer(call.group(1), call.group(2))), call.group(3));
        } else {
            checks.due(where + line, "no call with its answer", "a call with its answer");
        }
    }

    private Object answer(String name, String numbers) throws ReflectiveOperationException {
        String[] words = numbers.isEmpty() ? new String[0] : numbers.split(", ");
        for (Method method : TickWalks.class.getMethods()) {
            if (method.getName().equals(name) && method.getParameterCount() == words.length) {
                return method.invoke(walks, values(words, method.getParameterTypes()));
            }
        }
        return "no such call";
    }

    private static Object[] values(String[] words, Class<?>[] types) {
        Object[] values = new Object[words.length];
        for (int i = 0; i < words.length; i++) {
            if (types[i] != boolean.class) {
                values[i] = Integer.valueOf(words[i]);
            } else if (words[i].equals("true") || words[i].equals("false")) {
                values[i] = Boolean.valueOf(words[i]);
            } else {
                throw new IllegalArgumentException(words[i] + " is neither true nor false");
            }
        }
        return values;
    }

    private static Set<String> face() {
        Set<String> names = new TreeSet<>();
        for (Method method : TickWalks.class.getDeclaredMethods()) {
            if (Modifier.isPublic(method.getModifiers())) {
                names.add(method.getName());
            }
        }
        return names;
    }
}
