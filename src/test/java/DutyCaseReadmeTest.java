import java.io.IOException;
import java.lang.reflect.Method;
import java.lang.reflect.Modifier;
import java.net.URL;
import java.net.URLClassLoader;
import java.nio.file.Files;
import java.nio.file.Path;
import java.util.ArrayList;
import java.util.List;
import java.util.regex.Matcher;
import java.util.regex.Pattern;
import java.util.stream.Collectors;
import java.util.stream.Stream;
import javax.tools.ToolProvider;

/** What README.md says of an answer is what the class answers: its examples are compiled and run as they stand there. */
public final class DutyCaseReadmeTest {
    private static final Path PAGE = Path.of("README.md");
    private static final Path TESTS = Path.of("src/test/java");
    private static final Pattern BLOCK = Pattern.compile("```java\n(.*?)```", Pattern.DOTALL);
    private static final Pattern ANSWERED =
            Pattern.compile("(\\S.*);\\s+// (-?\\d+|true|false|throws \\w+)(?:: .*)?");
    /** What an example's answer is compared by; the page's own methods and its calls are put behind it. */
    private static final String HEAD = "import java.util.ArrayList;\nimport java.util.List;\n"
            + "public final class ReadmeProgram {\n"
            + "static final List<String> GOT = new ArrayList<>();\n"
            + "interface Asked { Object go(); }\n"
            + "interface Done { void go(); }\n"
            + "static void got(Asked call) {\n"
            + "  try { GOT.add(String.valueOf(call.go())); }\n"
            + "  catch (RuntimeException e) { GOT.add(\"throws \" + e.getClass().getSimpleName()); }\n}\n"
            + "static void got(Done call) {\n"
            + "  got(() -> { call.go(); return \"nothing\"; });\n}\n";

    private final Check check = new Check();
    private final List<String> calls = new ArrayList<>();
    private final List<String> due = new ArrayList<>();
    private final StringBuilder methods = new StringBuilder();
    private final StringBuilder body = new StringBuilder();

    public static void main(String[] args) throws IOException, ReflectiveOperationException {
        DutyCaseReadmeTest t = new DutyCaseReadmeTest();
        String page = Files.readString(PAGE);
        t.takeExamples(page);
        t.examplesAnswerSo();
        t.everyCallHasAnExample();
        t.everyTestIsNamed(page);
        t.check.finish();
    }

    private void takeExamples(String page) {
        Matcher blocks = BLOCK.matcher(page);
        while (blocks.find()) {
            if (blocks.group(1).startsWith("static ")) {
                methods.append(blocks.group(1));
            } else {
                blocks.group(1).lines().forEach(this::takeLine);
            }
        }
    }

    private void takeLine(String line) {
        Matcher answered = ANSWERED.matcher(line);
        if (!answered.matches()) {
            check.due("an answer that can be read, or none: " + line, line.contains("//"), false);
            body.append(line).append('\n');
            return;
        }
        calls.add(answered.group(1));
        due.add(answered.group(2));
        body.append("got(() -> ").append(answered.group(1)).append(");\n");
    }

    private void examplesAnswerSo() throws IOException, ReflectiveOperationException {
        List<?> got = run();
        check.due("answers of the examples", got.size(), due.size());
        for (int i = 0; i < Math.min(got.size(), due.size()); i++) {
            String what = calls.get(i) + " answered " + got.get(i) + ", README.md says " + due.get(i);
            check.due(what, got.get(i).equals(due.get(i)), true);
        }
    }

    private List<?> run() throws IOException, ReflectiveOperationException {
        Path folder = Files.createTempDirectory("readme");
        try {
            Path source = folder.resolve("ReadmeProgram.java");
            Files.writeString(source, HEAD + methods + "public static List<String> run() {\n" + body + "return GOT;\n}\n}\n");
            int failed = ToolProvider.getSystemJavaCompiler().run(null, null, null, "-d", folder.toString(),
                    "-cp", System.getProperty("java.class.path"), source.toString());
            check.due("README.md's examples being compiled", failed, 0);
            if (failed != 0) {
                return List.of();
            }
            URL[] place = {folder.toUri().toURL()};
            try (URLClassLoader loader = new URLClassLoader(place, DutyCaseReadmeTest.class.getClassLoader())) {
                return (List<?>) loader.loadClass("ReadmeProgram").getMethod("run").invoke(null);
            }
        } finally {
            for (Path file : filesIn(folder)) {
                Files.delete(file);
            }
            Files.delete(folder);
        }
    }

    private static List<Path> filesIn(Path folder) throws IOException {
        try (Stream<Path> files = Files.list(folder)) {
            return files.collect(Collectors.toList());
        }
    }

    private void everyCallHasAnExample() {
        for (Method m : DutyCase.class.getDeclaredMethods()) {
            if (Modifier.isPublic(m.getModifiers())) {
                boolean isThere = calls.stream().anyMatch(call -> call.contains("." + m.getName() + "("));
                check.due("README.md's having an example of " + m.getName(), isThere, true);
            }
        }
        for (String kind : List.of("IndexOutOfBoundsException", "IllegalArgumentException", "NoSuchElementException",
                "IllegalStateException")) {
            check.due("README.md's having an example of " + kind, due.contains("throws " + kind), true);
        }
    }

    private void everyTestIsNamed(String page) throws IOException {
        for (Path test : filesIn(TESTS)) {
            if (test.toString().endsWith("Test.java")) {
                check.due("README.md's naming " + test, page.contains(TESTS + "/" + test.getFileName()), true);
            }
        }
    }
}
