import java.io.ByteArrayOutputStream;
import java.io.File;
import java.io.IOException;
import java.io.PrintStream;
import java.lang.reflect.Method;
import java.lang.reflect.Modifier;
import java.net.URL;
import java.net.URLClassLoader;
import java.nio.charset.StandardCharsets;
import java.nio.file.Files;
import java.nio.file.Path;
import java.util.ArrayList;
import java.util.List;
import java.util.regex.Matcher;
import java.util.regex.Pattern;
import javax.tools.JavaCompiler;
import javax.tools.ToolProvider;

/**
 * README.md holds as it is written: its example compiles, each answer in it is the one that stands
 * behind the call, and every call and every test is named. It runs in the project's directory.
 */
public final class ReadmeTest {
    private static final Path PAGE = Path.of("README.md");
    private static final Path TESTS = Path.of("src", "test", "java");

    /** A call, with or without a name for its answer, and the answer behind it. */
    private static final Pattern TOLD =
            Pattern.compile("(?:int \\w+ = )?(room\\.\\w+\\(.*\\));\\s+// (-?\\d+|true|false)\\b.*");

    private final Check check = new Check();

    public static void main(String[] args) throws Exception {
        ReadmeTest test = new ReadmeTest();
        String page = Files.readString(PAGE);
        test.exampleAnswersAsToldThere(exampleOf(page));
        test.pageNamesEveryCall(page);
        test.pageNamesEveryTest(page);
        test.check.end();
    }

    private static List<String> exampleOf(String page) {
        List<String> example = new ArrayList<>();
        boolean isInside = false;
        for (String line : page.split("\n")) {
            if (line.startsWith("```")) {
                isInside = line.equals("```java");
            } else if (isInside) {
                example.add(line);
            }
        }
        return example;
    }

    private void exampleAnswersAsToldThere(List<String> example) throws Exception {
        check.topic("the example in README.md");
        List<String> calls = new ArrayList<>();
        List<String> due = new ArrayList<>();
        StringBuilder body = new StringBuilder();
        for (String line : example) {
            Matcher told = TOLD.matcher(line);
            check.same("an answer behind each call: " + line, told.matches(), line.contains("room."));
            body.append(line).append('\n');
            if (told.matches()) {
                calls.add(told.group(1));
                due.add(told.group(2));
            }
        }
        Path place = Files.createTempDirectory("readme");
        try {
            boolean isCompiled = compile(place, "ReadmeExample", body.toString())
                    && compile(place, "ReadmeAnswers", printing(example));
            check.same("the example compiles", isCompiled, true);
            if (isCompiled) {
                String[] got = outputOf(place, "ReadmeAnswers").split("\n");
                check.same("the calls in it", got.length, calls.size());
                for (int i = 0; i < Math.min(got.length, calls.size()); i++) {
                    check.sameText(calls.get(i), got[i], due.get(i));
                }
            }
        } finally {
            deleteAllOf(place);
        }
    }

    /** The example once more, so that it prints the answer of each call. */
    private static String printing(List<String> example) {
        StringBuilder body = new StringBuilder();
        for (String line : example) {
            Matcher told = TOLD.matcher(line);
            if (!told.matches()) {
                body.append(line);
            } else if (line.startsWith("int ")) {
                String name = line.substring("int ".length(), line.indexOf(" = "));
                body.append(line).append("\nSystem.out.print(").append(name).append(" + \"\\n\");");
            } else {
                body.append("System.out.print(").append(told.group(1)).append(" + \"\\n\");");
            }
            body.append('\n');
        }
        return body.toString();
    }

    private static boolean compile(Path place, String name, String body) throws IOException {
        Path source = place.resolve(name + ".java");
        String head = "public class " + name + " { public static void main(String[] args) {\n";
        Files.writeString(source, head + body + "} }\n");
        JavaCompiler compiler = ToolProvider.getSystemJavaCompiler();
        String path = System.getProperty("java.class.path");
        return compiler != null
                && compiler.run(null, null, null, "-cp", path, "-d", place.toString(), source.toString()) == 0;
    }

    private static String outputOf(Path place, String name) throws Exception {
        PrintStream usual = System.out;
        ByteArrayOutputStream caught = new ByteArrayOutputStream();
        try (URLClassLoader loader = new URLClassLoader(new URL[] {place.toUri().toURL()})) {
            System.setOut(new PrintStream(caught, true, StandardCharsets.US_ASCII));
            loader.loadClass(name).getMethod("main", String[].class).invoke(null, (Object) new String[0]);
        } finally {
            System.setOut(usual);
        }
        return caught.toString(StandardCharsets.US_ASCII);
    }

    private static void deleteAllOf(Path place) throws IOException {
        File[] files = place.toFile().listFiles();
        for (File file : files == null ? new File[0] : files) {
            Files.delete(file.toPath());
        }
        Files.delete(place);
    }

    private void pageNamesEveryCall(String page) {
        check.topic("the calls that README.md names");
        for (Method method : SignetRoom.class.getDeclaredMethods()) {
            if (Modifier.isPublic(method.getModifiers())) {
                check.same(method.getName(), page.contains("`" + method.getName() + "`"), true);
            }
        }
    }

    private void pageNamesEveryTest(String page) {
        check.topic("the tests that README.md names");
        String[] files = TESTS.toFile().list();
        check.same("there are tests", files != null && files.length > 0, true);
        for (String file : files == null ? new String[0] : files) {
            if (file.endsWith("Test.java")) {
                String name = file.substring(0, file.length() - ".java".length());
                check.same(name, page.contains("`" + name + "`"), true);
            }
        }
    }
}
