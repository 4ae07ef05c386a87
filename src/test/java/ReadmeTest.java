import java.io.IOException;
import java.lang.reflect.Field;
import java.lang.reflect.Method;
import java.lang.reflect.Modifier;
import java.nio.file.DirectoryStream;
import java.nio.file.Files;
import java.nio.file.Path;
import java.util.HashMap;
import java.util.regex.Matcher;
import java.util.regex.Pattern;

/** README.md tells of the class and of its tests as they are now. */
public final class ReadmeTest {
    private static final Pattern EXAMPLE = Pattern.compile("```java\n(.*?)```", Pattern.DOTALL);
    private static final Pattern CALL =
            Pattern.compile("(?:int (\\w+) = )?store\\.(\\w+)\\(([^()]*)\\); +// (-?\\d+)(?::.*)?");

    private final Check check = new Check("ReadmeTest");
    private final String readme;

    private ReadmeTest(String readme) {
        this.readme = readme;
    }

    public static void main(String[] args) throws IOException, ReflectiveOperationException {
        Path source = Path.of(args.length > 0 ? args[0] : "src/main/java/PropStore.java").toAbsolutePath();
        Path root = source.getParent().resolve("../../..").normalize();
        ReadmeTest test = new ReadmeTest(Files.readString(root.resolve("README.md")));
        test.exampleAnswersAsTold();
        test.everyCallIsTold();
        test.everyConstantIsTold();
        test.everyTestIsTold(root.resolve("src/test/java"));
        test.check.end();
    }

    private void exampleAnswersAsTold() throws ReflectiveOperationException {
        Matcher example = EXAMPLE.matcher(readme);
        if (!example.find()) {
            check.that("there is no example", false);
            return;
        }
        String[] lines = example.group(1).split("\n");
        check.that("the example makes no store", lines[0].equals("PropStore store = new PropStore();"));
        check.that("the example makes no calls", lines.length > 1);
        PropStore store = new PropStore();
        HashMap<String, Integer> names = new HashMap<>();
        for (int k = 1; k < lines.length; k++) {
            Matcher call = CALL.matcher(lines[k]);
            check.that("no call with its answer: " + lines[k], call.matches());
            if (call.matches()) {
                long answer = answerOf(store, call.group(2), call.group(3), names);
                check.due(lines[k], answer, Long.parseLong(call.group(4)));
                names.put(call.group(1), (int) answer);
            }
        }
    }

    private static long answerOf(PropStore store, String name, String arguments, HashMap<String, Integer> names)
            throws ReflectiveOperationException {
        String[] words = arguments.isEmpty() ? new String[0] : arguments.split(", ");
        Class<?>[] types = new Class<?>[words.length];
        Object[] values = new Object[words.length];
        for (int k = 0; k < words.length; k++) {
            types[k] = int.class;
            values[k] = names.containsKey(words[k]) ? names.get(words[k]) : Integer.valueOf(words[k]);
        }
        Object answer = PropStore.class.getMethod(name, types).invoke(store, values);
        return ((Number) answer).longValue();
    }

    private void everyCallIsTold() {
        for (Method method : PropStore.class.getDeclaredMethods()) {
            if (Modifier.isPublic(method.getModifiers())) {
                check.that(method + " is not told", readme.contains("`" + method.getName() + "("));
            }
        }
    }

    private void everyConstantIsTold() throws IllegalAccessException {
        for (Field field : PropStore.class.getFields()) {
            String told = "`" + field.getName() + "` (" + field.getInt(null) + ")";
            check.that(told + " is not told", readme.contains(told));
        }
    }

    private void everyTestIsTold(Path directory) throws IOException {
        try (DirectoryStream<Path> tests = Files.newDirectoryStream(directory, "*Test.java")) {
            for (Path test : tests) {
                String name = test.getFileName().toString().replace(".java", "");
                check.that(name + " is not told", readme.contains("`" + name + "`"));
            }
        }
    }
}
