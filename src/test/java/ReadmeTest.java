import java.io.IOException;
import java.lang.reflect.Method;
import java.nio.charset.StandardCharsets;
import java.nio.file.DirectoryStream;
import java.nio.file.Files;
import java.nio.file.Path;
import java.util.regex.Matcher;
import java.util.regex.Pattern;

/** README.md tells the truth: its example answers so, and it names each call of the face and each test. */
public final class ReadmeTest {
    private static final Pattern WRITTEN = Pattern.compile("for \\(char letter : \"([^\"]*)\"\\.toCharArray\\(\\)\\) .*");
    private static final Pattern CALL = Pattern.compile("x\\.([a-z]+)\\(([^)]*)\\);\\s+// (-?[0-9]+): .*");
    private static int checks = 0;
    private static int wrong = 0;

    public static void main(String[] args) throws IOException, ReflectiveOperationException {
        String readme = Files.readString(Path.of("README.md"), StandardCharsets.UTF_8);
        int from = readme.indexOf("```java\n");
        int to = readme.indexOf("```\n", from + 3);
        must(from >= 0 && to > from, "there is an example");
        if (wrong == 0) {
            example(readme.substring(from, to).split("\n"));
        }
        namesAll(readme);
        System.out.println(checks + " lines and names of README.md: " + (wrong == 0 ? "all true" : wrong + " faults"));
        if (wrong != 0) {
            System.exit(1);
        }
    }

    private static void must(boolean holds, String what) {
        checks++;
        if (!holds) {
            wrong++;
            System.out.println("README.md: not so: " + what);
        }
    }

    private static void example(String[] lines) throws ReflectiveOperationException {
        SpentPasses x = new SpentPasses();
        for (int i = 2; i < lines.length; i++) {
            Matcher written = WRITTEN.matcher(lines[i]);
            Matcher call = CALL.matcher(lines[i]);
            if (written.matches()) {
                for (char letter : written.group(1).toCharArray()) {
                    x.write(letter);
                }
            } else {
                must(call.matches() && answer(x, call.group(1), call.group(2)) == Long.parseLong(call.group(3)), lines[i]);
            }
        }
    }

    private static long answer(SpentPasses x, String name, String told) throws ReflectiveOperationException {
        String[] words = told.isEmpty() ? new String[0] : told.split(", ");
        for (Method method : SpentPasses.class.getMethods()) {
            Class<?>[] types = method.getParameterTypes();
            if (method.getName().equals(name) && types.length == words.length) {
                Object[] values = new Object[words.length];
                for (int i = 0; i < words.length; i++) {
                    values[i] = types[i] == boolean.class ? (Object) Boolean.valueOf(words[i])
                        : types[i] == long.class ? (Object) Long.valueOf(words[i]) : (Object) Integer.valueOf(words[i]);
                }
                return ((Number) method.invoke(x, values)).longValue();
            }
        }
        throw new NoSuchMethodException(name);
    }

    private static void namesAll(String readme) throws IOException {
        for (Method method : SpentPasses.class.getDeclaredMethods()) {
            if (method.getModifiers() == java.lang.reflect.Modifier.PUBLIC) {
                must(readme.contains("`" + method.getName() + "`"), "it names the call " + method.getName());
            }
        }
        try (DirectoryStream<Path> tests = Files.newDirectoryStream(Path.of("src/test/java"), "*Test.java")) {
            for (Path test : tests) {
                String name = test.getFileName().toString().replace(".java", "");
                must(readme.contains("`" + name + "`"), "it names the test " + name);
            }
        }
        must(readme.contains("`.ci/run`"), "it says how the tests are run");
    }
}
