import java.io.IOException;
import java.io.UncheckedIOException;
import java.lang.reflect.Field;
import java.lang.reflect.Method;
import java.lang.reflect.Modifier;
import java.nio.file.Files;
import java.nio.file.Path;
import java.util.List;
import java.util.regex.Matcher;
import java.util.regex.Pattern;
import java.util.stream.Stream;

/** README.md: its examples answer what it says, and it names every call, every refusal and every test. */
public final class ReadmeTest {
    private static final Path README = Path.of("README.md"), TESTS = Path.of("src/test/java");
    private static final Pattern MADE = Pattern.compile("new ChainHouse\\((\\d+)\\)");
    private static final Pattern CALL = Pattern.compile("house\\.(\\w+)\\(([^()]*)\\)[);]*\\s*//\\s*(-?\\d+|[A-Z_]+)\\b");
    private static ChainHouse house;
    private static int calls;

    private static Method methodOf(String name) {
        for (Method m : ChainHouse.class.getDeclaredMethods()) {
            if (Modifier.isPublic(m.getModifiers()) && m.getName().equals(name)) return m;
        }
        throw new IllegalStateException("README.md calls " + name + ", which there is not");
    }

    private static Object argument(Class<?> type, String text) {
        if (type == boolean.class) return Boolean.valueOf(text);
        if (type == int.class) return Integer.valueOf(text);
        return Long.valueOf(text.replace("L", ""));
    }

    private static long answerTo(String name, String arguments) throws ReflectiveOperationException {
        Method m = methodOf(name);
        String[] texts = arguments.isEmpty() ? new String[0] : arguments.split(", *");
        Object[] all = new Object[texts.length];
        for (int i = 0; i < all.length; i++) all[i] = argument(m.getParameterTypes()[i], texts[i]);
        return ((Number) m.invoke(house, all)).longValue();
    }

    private static long number(String text) throws ReflectiveOperationException {
        return Character.isLetter(text.charAt(0)) ? ChainHouse.class.getField(text).getInt(null) : Long.parseLong(text);
    }

    /** Runs the lines of the examples, one behind the other. */
    private static void examples(List<String> lines) throws ReflectiveOperationException {
        boolean inside = false;
        for (String line : lines) {
            if (line.startsWith("```")) inside = line.equals("```java");
            if (!inside) continue;
            Matcher made = MADE.matcher(line), call = CALL.matcher(line);
            if (made.find()) {
                house = new ChainHouse(Integer.parseInt(made.group(1)));
            } else if (call.find()) {
                calls++;
                Lab.due(line.trim(), answerTo(call.group(1), call.group(2)), number(call.group(3)));
            } else {
                Lab.due("an answer stands behind '" + line.trim() + "'", line.contains("house.") ? 0 : 1, 1);
            }
        }
    }

    private static void names(String text, String what) {
        Lab.due("README.md names " + what, text.contains(what) ? 1 : 0, 1);
    }

    /** Each call with as many numbers as it has, in a table with what it does. */
    private static void calls(String text) {
        for (Method m : ChainHouse.class.getDeclaredMethods()) {
            if (!Modifier.isPublic(m.getModifiers())) continue;
            Matcher row = Pattern.compile("\n\\| `" + m.getName() + "\\(([^)]*)\\)` \\| ").matcher(text);
            boolean found = row.find();
            Lab.due("README.md has a row of " + m.getName(), found ? 1 : 0, 1);
            if (!found) continue;
            int many = row.group(1).isEmpty() ? 0 : row.group(1).split(",").length;
            Lab.due("numbers of " + m.getName(), many, m.getParameterCount());
        }
        for (Field f : ChainHouse.class.getDeclaredFields()) {
            if (Modifier.isPublic(f.getModifiers())) names(text, "`ChainHouse." + f.getName() + "`");
        }
    }

    private static List<String> testNames() throws IOException {
        try (Stream<Path> all = Files.list(TESTS)) {
            return all.map(p -> p.getFileName().toString().replace(".java", "")).filter(n -> n.endsWith("Test")).sorted().toList();
        }
    }

    /** How many there are in all is told for the project's tests and the one that stands under ../shared/tests. */
    private static void tests(String text) throws IOException {
        List<String> tests = testNames();
        for (String test : tests) names(text, "`" + test + "`");
        names(text, (tests.size() + 1) + " tests ran, 0 failed");
        for (String what : new String[] {".ci/run", "../shared/tests", "512", "`new ChainHouse(n)`"}) names(text, what);
    }

    public static void main(String[] args) throws ReflectiveOperationException {
        try {
            String text = Files.readString(README);
            examples(text.lines().toList());
            Lab.due("there are examples", calls > 40 ? 1 : 0, 1);
            calls(text);
            tests(text);
        } catch (IOException e) {
            throw new UncheckedIOException(e);
        }
        Lab.end();
    }
}
