import java.lang.reflect.Method;
import java.lang.reflect.Modifier;
import java.net.URL;
import java.net.URLClassLoader;
import java.nio.file.Files;
import java.nio.file.Path;
import java.util.Comparator;
import java.util.List;
import java.util.regex.Matcher;
import java.util.regex.Pattern;
import java.util.stream.Collectors;
import java.util.stream.Stream;
import javax.tools.ToolProvider;

/** README.md's example compiles and answers what its comments say, and its list tells of every call. */
public final class ReadmeTest {
    private static final Pattern EXAMPLE = Pattern.compile("```java\n(.*?)```", Pattern.DOTALL);
    /** A line such as "long fix = decoder.fix();  // 2: the set of edge 1". */
    private static final Pattern VALUE = Pattern.compile("(?:int|long) (\\w+) = .*; *// (-?\\d+).*");
    private static int wrong = 0;

    private static void check(boolean right, String what) {
        if (!right) {
            wrong++;
            System.out.println("wrong in README.md: " + what);
        }
    }

    /** The example as a method that tells the values that are not as its comments say. */
    private static String program(String example) {
        StringBuilder text = new StringBuilder("public class Example { public static String run() { String told = \"\";\n");
        int values = 0;
        for (String line : example.split("\n")) {
            text.append(line).append('\n');
            Matcher value = VALUE.matcher(line);
            if (value.matches()) {
                values++;
                text.append("if (").append(value.group(1)).append(" != ").append(value.group(2)).append(") told += \" ")
                        .append(value.group(1)).append(" is \" + ").append(value.group(1)).append(";\n");
            }
        }
        check(values > 0, "no value in the example");
        return text.append("return told; } }\n").toString();
    }

    private static String answersOf(String program, Path directory) throws Exception {
        Path file = directory.resolve("Example.java");
        Files.writeString(file, program);
        String classes = System.getProperty("java.class.path");
        int failed = ToolProvider.getSystemJavaCompiler().run(null, null, null,
                "--release", "17", "-cp", classes, "-d", directory.toString(), file.toString());
        if (failed != 0) {
            return " it does not compile";
        }
        URL[] where = {directory.toUri().toURL()};
        try (URLClassLoader loader = new URLClassLoader(where, ReadmeTest.class.getClassLoader())) {
            return (String) loader.loadClass("Example").getMethod("run").invoke(null);
        }
    }

    private static void checkExample(String readme) throws Exception {
        Matcher example = EXAMPLE.matcher(readme);
        if (!example.find()) {
            check(false, "no example");
            return;
        }
        Path directory = Files.createTempDirectory("readme");
        try {
            String answers = answersOf(program(example.group(1)), directory);
            check(answers.isEmpty(), "the example:" + answers);
        } finally {
            deleteAll(directory);
        }
    }

    private static void deleteAll(Path directory) throws Exception {
        List<Path> paths;
        try (Stream<Path> walk = Files.walk(directory)) {
            paths = walk.sorted(Comparator.reverseOrder()).collect(Collectors.toList());
        }
        for (Path path : paths) {
            Files.delete(path);
        }
    }

    private static void checkList(String readme) {
        for (Method method : PairDecoder.class.getDeclaredMethods()) {
            if (Modifier.isPublic(method.getModifiers())) {
                int more = method.getParameterCount() - 1;
                String values = more < 0 ? "" : "\\w+(, \\w+){" + more + "}";
                String wanted = "\\| `" + method.getName() + "\\(" + values + "\\)` \\|";
                check(Pattern.compile(wanted).matcher(readme).find(), "no row for " + method.getName());
            }
        }
    }

    private static void checkTests(String readme) throws Exception {
        try (Stream<Path> files = Files.list(Path.of("src", "test", "java"))) {
            for (Path file : files.collect(Collectors.toList())) {
                check(readme.contains(file.getFileName().toString()), "nothing of " + file);
            }
        }
    }

    public static void main(String[] args) throws Exception {
        String readme = Files.readString(Path.of("README.md"));
        checkExample(readme);
        checkList(readme);
        checkTests(readme);
        System.out.println(wrong == 0 ? "README.md tells what is so" : wrong + " things are wrong");
        if (wrong != 0) {
            System.exit(1);
        }
    }
}
