import java.io.IOException;
import java.lang.reflect.Method;
import java.lang.reflect.Modifier;
import java.net.URL;
import java.net.URLClassLoader;
import java.nio.file.Files;
import java.nio.file.Path;
import java.util.Comparator;
import java.util.Set;
import java.util.TreeSet;
import java.util.regex.Matcher;
import java.util.regex.Pattern;
import java.util.stream.Stream;
import javax.tools.ToolProvider;

/** README.md: what its example says is answered is answered, and it leaves no call and no test out. */
public final class ReadmeTest {
    private static final Pattern EXAMPLE = Pattern.compile("(?s)```java\n(.*?)```");
    private static final Pattern ANSWER = Pattern.compile("(stage\\..*\\));\\s*// answers ([^:]+)(:.*)?");
    private static final Pattern NAMED_TEST = Pattern.compile("\\| `(\\w+Test)` \\|");

    private ReadmeTest() {
    }

    public static void main(String[] args) throws Exception {
        String text = Files.readString(Path.of("README.md"));
        example(text);
        calls(text);
        tests(text);
        Check.end();
    }

    private static void example(String text) throws Exception {
        Matcher found = EXAMPLE.matcher(text);
        Check.due("README.md has an example", true, found.find());
        Path made = Files.createTempDirectory("readme");
        try {
            Check.due("the example's answers", "", run(found.group(1), made));
        } finally {
            remove(made);
        }
    }

    /** Runs the example; answers the lines whose answer is not the one that they tell. */
    private static String run(String example, Path made) throws Exception {
        Path source = made.resolve("ReadmeExample.java");
        Files.writeString(source, program(example));
        int failed = ToolProvider.getSystemJavaCompiler().run(null, System.out, System.out,
                "-cp", System.getProperty("java.class.path"), "-d", made.toString(), source.toString());
        if (failed != 0) {
            return "it does not compile";
        }
        try (URLClassLoader loader = new URLClassLoader(new URL[] {made.toUri().toURL()})) {
            return (String) loader.loadClass("ReadmeExample").getMethod("run").invoke(null);
        }
    }

    private static String program(String example) {
        StringBuilder lines = new StringBuilder();
        lines.append("public final class ReadmeExample {\npublic static String run() {\nString wrong = \"\";\n");
        for (String line : example.split("\n")) {
            Matcher told = ANSWER.matcher(line);
            if (told.matches()) {
                lines.append("{ String got = String.valueOf(" + told.group(1) + ");\n");
                lines.append("if (!got.equals(String.valueOf(" + told.group(2) + "))) {\n");
                lines.append("wrong += \"" + told.group(1) + " answers \" + got + \"; \"; } }\n");
            } else {
                Check.due(line + " is read", false, line.contains("// answers"));
                lines.append(line).append('\n');
            }
        }
        Check.due("the example tells answers", true, example.contains("// answers"));
        return lines.append("return wrong;\n}\n}\n").toString();
    }

    private static void remove(Path made) throws IOException {
        try (Stream<Path> files = Files.walk(made)) {
            for (Path file : files.sorted(Comparator.reverseOrder()).toList()) {
                Files.delete(file);
            }
        }
    }

    private static void calls(String text) {
        for (Method method : SlideStage.class.getDeclaredMethods()) {
            if (Modifier.isPublic(method.getModifiers())) {
                String row = "| `" + method.getName() + "(";
                Check.due("README.md has a row for " + method.getName(), true, text.contains(row));
            }
        }
    }

    private static void tests(String text) throws IOException {
        Set<String> named = new TreeSet<>();
        Matcher row = NAMED_TEST.matcher(text);
        while (row.find()) {
            named.add(row.group(1));
        }
        Set<String> there = new TreeSet<>();
        try (Stream<Path> files = Files.list(Path.of("src/test/java"))) {
            for (String name : files.map(file -> file.getFileName().toString()).toList()) {
                if (name.endsWith("Test.java")) {
                    there.add(name.substring(0, name.length() - ".java".length()));
                }
            }
        }
        Check.due("the tests that README.md names", there.toString(), named.toString());
    }
}
