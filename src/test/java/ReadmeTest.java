import java.io.File;
import java.lang.reflect.Method;
import java.lang.reflect.Modifier;
import java.nio.charset.StandardCharsets;
import java.nio.file.Files;
import java.nio.file.Path;
import java.util.regex.Matcher;
import java.util.regex.Pattern;

/** What README.md says must be so: its examples are run, and it names each call and each test. */
final class ReadmeTest {
    private static final Pattern EXAMPLE = Pattern.compile("(?s)```java\n(.*?)```");
    private static final Pattern MADE = Pattern.compile("GrayPointers ring = new GrayPointers\\(\\);.*");
    private static final Pattern CALL = Pattern.compile("ring\\.(\\w+)\\(([^)]*)\\); +// (-?\\d+)(:.*)?");

    private ReadmeTest() {
    }

    static void run(Path page, Path tests) throws Exception {
        String text = new String(Files.readAllBytes(page), StandardCharsets.UTF_8);
        int examples = 0;
        for (Matcher found = EXAMPLE.matcher(text); found.find(); examples++) {
            example(found.group(1));
        }
        Due.is("README.md: examples", 3, examples);
        namesEachCall(text);
        namesEachTest(text, tests);
    }

    private static void example(String text) throws Exception {
        GrayPointers ring = null;
        for (String line : text.split("\n")) {
            Matcher call = CALL.matcher(line);
            if (call.matches()) {
                Due.isTrue("README.md: an object is made ahead of " + line, ring != null);
                int answer = answer(ring, call.group(1), call.group(2));
                Due.is("README.md: " + line, Integer.parseInt(call.group(3)), answer);
            } else {
                Due.isTrue("README.md: a line of an example: " + line, MADE.matcher(line).matches());
                ring = new GrayPointers();
            }
        }
    }

    private static int answer(GrayPointers ring, String name, String written) throws Exception {
        for (Method method : GrayPointers.class.getDeclaredMethods()) {
            if (method.getName().equals(name)) {
                String[] words = written.isEmpty() ? new String[0] : written.split(", ");
                Class<?>[] types = method.getParameterTypes();
                Object[] values = new Object[words.length];
                for (int i = 0; i < words.length; i++) {
                    values[i] = value(types[i], words[i]);
                }
                return (int) method.invoke(ring, values);
            }
        }
        throw new IllegalStateException("README.md: no call is named " + name);
    }

    private static Object value(Class<?> type, String word) {
        if (type == char.class) {
            return word.charAt(1);
        }
        if (type == boolean.class) {
            return Boolean.valueOf(word);
        }
        return Integer.valueOf(word);
    }

    private static void namesEachCall(String text) {
        for (Method method : GrayPointers.class.getDeclaredMethods()) {
            if (Modifier.isPublic(method.getModifiers())) {
                Pattern row = Pattern.compile("(?m)^\\| `" + method.getName() + "\\(([^)]*)\\)` \\|");
                Matcher found = row.matcher(text);
                boolean named = found.find();
                Due.isTrue("README.md has a row of " + method.getName(), named);
                int arguments = !named || found.group(1).isEmpty() ? 0 : found.group(1).split(", ").length;
                Due.is("README.md: the arguments of " + method.getName(), method.getParameterCount(), arguments);
            }
        }
    }

    private static void namesEachTest(String text, Path tests) {
        File[] files = tests.toFile().listFiles();
        Due.isTrue("there are tests in " + tests, files != null && files.length > 0);
        for (File file : files) {
            String name = file.getName().replace(".java", "");
            Due.isTrue("README.md names " + name, text.contains("`" + name + "`"));
        }
        Matcher row = Pattern.compile("(?m)^\\| `(\\w+Test)` \\|").matcher(text);
        while (row.find()) {
            Due.isTrue(row.group(1) + " is there", tests.resolve(row.group(1) + ".java").toFile().isFile());
        }
    }
}
