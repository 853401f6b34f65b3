import java.io.IOException;
import java.lang.reflect.Method;
import java.lang.reflect.Modifier;
import java.net.URL;
import java.net.URLClassLoader;
import java.nio.file.Files;
import java.nio.file.Path;
import java.util.ArrayList;
import java.util.List;
import java.util.regex.Matcher;
import java.util.regex.Pattern;
import java.util.stream.Stream;
import javax.tools.ToolProvider;

/** README.md holds: its example answers as it says, and it names every call, every refusal and every test. */
public final class ReadmeTest {
    private static final Check CHECK = new Check();
    private static final Pattern ANSWERED = Pattern.compile("(?m)^x\\.(.*\\));\\s+// (-?\\d+): .*$");

    public static void main(String[] args) throws Exception {
        String page = Files.readString(Path.of("README.md"));
        example(page);
        calls(page);
        refusals(page);
        tests(page);
        CHECK.finish();
    }

    /** The example is compiled as it stands, but that each call with an answer behind it keeps its answer. */
    private static void example(String page) throws Exception {
        Matcher block = Pattern.compile("(?s)```java\n(.*?)```").matcher(page);
        CHECK.holds("an example", block.find());
        List<String> calls = new ArrayList<>();
        List<Long> due = new ArrayList<>();
        Matcher answered = ANSWERED.matcher(block.group(1));
        while (answered.find()) {
            calls.add(answered.group(1));
            due.add(Long.parseLong(answered.group(2)));
        }
        CHECK.holds("answers of the example", calls.size() > 9);
        String body = answered.replaceAll("got.add((long) x.$1);");
        List<?> got = run("public final class Example { public static java.util.List<Long> run() {\n"
                + "java.util.List<Long> got = new java.util.ArrayList<>();\n" + body + "return got; } }\n");
        CHECK.due("answers", got.size(), calls.size());
        for (int i = 0; i < got.size() && i < calls.size(); i++) {
            CHECK.due(calls.get(i), (Long) got.get(i), due.get(i));
        }
    }

    private static List<?> run(String source) throws Exception {
        Path room = Files.createTempDirectory("readme");
        Path file = room.resolve("Example.java");
        Files.writeString(file, source);
        int compiled = ToolProvider.getSystemJavaCompiler().run(null, null, null,
                "-cp", System.getProperty("java.class.path"), "-d", room.toString(), file.toString());
        CHECK.due("the example is compiled", compiled, 0);
        List<?> got = List.of();
        if (compiled == 0) {
            try (URLClassLoader loader = new URLClassLoader(new URL[] {room.toUri().toURL()})) {
                got = (List<?>) loader.loadClass("Example").getMethod("run").invoke(null);
            }
        }
        try (Stream<Path> files = Files.list(room)) {
            for (Path each : files.toList()) {
                Files.delete(each);
            }
        }
        Files.delete(room);
        return got;
    }

    private static void calls(String page) {
        for (Method method : LuckyTicket.class.getDeclaredMethods()) {
            if (Modifier.isPublic(method.getModifiers())) {
                CHECK.holds("a word on " + method.getName(), page.contains("`" + method.getName() + "`"));
            }
        }
    }

    private static void refusals(String page) throws IOException {
        Matcher refusals = Pattern.compile("-[1-9]\\b").matcher(Files.readString(Path.of("../shared/DOC.md")));
        while (refusals.find()) {
            CHECK.holds("a word on " + refusals.group(), page.contains("\n| " + refusals.group() + " "));
        }
    }

    private static void tests(String page) throws IOException {
        CHECK.holds("how the tests are run", page.contains("`.ci/run`") && Files.isExecutable(Path.of(".ci/run")));
        try (Stream<Path> files = Files.list(Path.of("src/test/java"))) {
            for (Path file : files.toList()) {
                String name = file.getFileName().toString().replace(".java", "");
                CHECK.holds("a word on " + name, !name.endsWith("Test") || page.contains("| `" + name + "` |"));
            }
        }
        Matcher told = Pattern.compile("(?m)^\\| `(\\w+Test)` \\|").matcher(page);
        while (told.find()) {
            CHECK.holds(told.group(1) + " is there", Files.exists(Path.of("src/test/java", told.group(1) + ".java")));
        }
    }
}
