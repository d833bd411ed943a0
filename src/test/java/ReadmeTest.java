import java.io.IOException;
import java.lang.reflect.Method;
import java.lang.reflect.Modifier;
import java.net.URL;
import java.net.URLClassLoader;
import java.nio.file.Files;
import java.nio.file.Path;
import java.util.ArrayList;
import java.util.List;
import java.util.function.Supplier;
import java.util.regex.Matcher;
import java.util.regex.Pattern;
import java.util.stream.Stream;
import javax.tools.ToolProvider;

/** README.md: its examples compile and answer as it says, and its tables name every call and every test; run from the project's folder. */
public final class ReadmeTest {
    private static final Check check = new Check();
    private static final Pattern EXAMPLE = Pattern.compile("(?s)```java\n(.*?)```");
    private static final Pattern ASKED = Pattern.compile("((?:int|long) (\\w+) = )?(shop\\.\\w+\\(.*\\)); *// (-?\\d+): .+");
    private static final Pattern UNASKED = Pattern.compile("HardShop shop = new HardShop\\(\\);|for \\(.*;");
    private static final int LEAST_EXAMPLES = 3;

    /** An example: the code that answers all its calls, and what README.md says that each answers. */
    private static final class Example {
        final StringBuilder code = new StringBuilder();
        final List<String> calls = new ArrayList<>();
        final List<Long> due = new ArrayList<>();
    }

    public static void main(String[] args) throws IOException, ReflectiveOperationException {
        String readme = Files.readString(Path.of("README.md"));
        examples(readme);
        everyCallIsNamed(readme);
        everyTestIsNamed(readme);
        check.end();
    }

    private static void examples(String readme) throws IOException, ReflectiveOperationException {
        Matcher m = EXAMPLE.matcher(readme);
        int number = 0;
        while (m.find()) {
            Example example = read(m.group(1));
            long[] answers = play(example, "Example" + number);
            check.due("answers of example " + number, answers.length, example.due.size());
            for (int i = 0; i < answers.length; i++) {
                check.due("example " + number + ": " + example.calls.get(i), answers[i], example.due.get(i));
            }
            number++;
        }
        check.that("there are examples, not " + number, number >= LEAST_EXAMPLES);
    }

    /** A line that says no answer and is not one of the few that need none is an error: it would go untested. */
    private static Example read(String block) {
        Example example = new Example();
        for (String line : block.split("\n")) {
            Matcher asked = ASKED.matcher(line);
            if (!asked.matches()) {
                check.that("'" + line + "' says what it answers", UNASKED.matcher(line).matches());
                example.code.append(line).append('\n');
                continue;
            }
            String variable = asked.group(2);
            String call = asked.group(3);
            if (variable != null) {
                example.code.append(asked.group(1)).append(call).append(";\n");
            }
            example.code.append("long answer").append(example.calls.size()).append(" = ")
                    .append(variable == null ? call : variable).append(";\n");
            example.calls.add(call);
            example.due.add(Long.parseLong(asked.group(4)));
        }
        return example;
    }

    private static String sourceOf(Example example, String name) {
        StringBuilder answers = new StringBuilder();
        for (int i = 0; i < example.calls.size(); i++) {
            answers.append(i == 0 ? "" : ", ").append("answer").append(i);
        }
        return "public final class " + name + " implements java.util.function.Supplier<long[]> {\n"
                + "public long[] get() {\n" + example.code + "return new long[] {" + answers + "};\n}\n}\n";
    }

    private static long[] play(Example example, String name) throws IOException, ReflectiveOperationException {
        Path folder = Files.createTempDirectory("readme");
        Path source = folder.resolve(name + ".java");
        Path made = folder.resolve(name + ".class");
        try {
            Files.writeString(source, sourceOf(example, name));
            int refused = ToolProvider.getSystemJavaCompiler().run(null, null, null, "-proc:none",
                    "-cp", System.getProperty("java.class.path"), "-d", folder.toString(), source.toString());
            check.due("javac of " + name, refused, 0);
            return refused == 0 ? answersOf(folder, name) : new long[0];
        } finally {
            Files.deleteIfExists(source);
            Files.deleteIfExists(made);
            Files.deleteIfExists(folder);
        }
    }

    private static long[] answersOf(Path folder, String name) throws IOException, ReflectiveOperationException {
        URL[] where = {folder.toUri().toURL()};
        try (URLClassLoader loader = new URLClassLoader(where, ReadmeTest.class.getClassLoader())) {
            Object made = loader.loadClass(name).getDeclaredConstructor().newInstance();
            return (long[]) ((Supplier<?>) made).get();
        }
    }

    private static void everyCallIsNamed(String readme) {
        for (Method m : HardShop.class.getDeclaredMethods()) {
            if (Modifier.isPublic(m.getModifiers())) {
                Pattern row = Pattern.compile("(?m)^\\| `" + m.getName() + "\\(((?:\\w+(?:, )?)*)\\)` \\|");
                Matcher found = row.matcher(readme);
                boolean named = found.find();
                check.that("a row tells of " + m.getName(), named);
                String numbers = named ? found.group(1) : "";
                check.due("numbers of " + m.getName(), numbers.isEmpty() ? 0 : numbers.split(", ").length,
                        m.getParameterCount());
            }
        }
    }

    private static void everyTestIsNamed(String readme) throws IOException {
        try (Stream<Path> files = Files.list(Path.of("src/test/java"))) {
            for (Path file : files.sorted().toList()) {
                String name = file.getFileName().toString();
                if (name.endsWith("Test.java")) {
                    String test = name.substring(0, name.length() - ".java".length());
                    check.that("a row tells of " + test, readme.contains("`" + test + "`"));
                }
            }
        }
    }
}
