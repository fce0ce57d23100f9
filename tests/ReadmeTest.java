import java.io.IOException;
import java.io.StringWriter;
import java.lang.reflect.Method;
import java.lang.reflect.Modifier;
import java.nio.charset.StandardCharsets;
import java.nio.file.Files;
import java.nio.file.Path;
import java.util.ArrayList;
import java.util.List;
import java.util.regex.Matcher;
import java.util.regex.Pattern;
import java.util.stream.Stream;

/** README.md: its example compiles and prints what stands behind it, and each call of the face and each test is told. */
final class ReadmeTest {
    private static final Due DUE = new Due();
    private static final Pattern SHOWN = Pattern.compile("show\\(.*\\);\\s+// (-?\\d+):.*");
    private static final Pattern TOLD = Pattern.compile("\\| `(\\w+)\\(([^)]*)\\)` \\|.*");

    public static void main(String[] args) throws Exception {
        String page = Files.readString(Path.of("README.md"));
        example(page);
        calls(page);
        tests(page);
        DUE.close();
    }

    private static void example(String page) throws Exception {
        int from = page.indexOf("public final class Example");
        String code = page.substring(from, page.indexOf("```", from));
        List<String> wanted = new ArrayList<>();
        for (String line : code.lines().toList()) {
            Matcher shown = SHOWN.matcher(line.strip());
            if (shown.matches()) {
                wanted.add(shown.group(1));
            }
        }
        DUE.due("answers are told", wanted.size() >= 10 ? 1 : 0, 1);
        List<String> printed = printedBy(code);
        DUE.due("the example prints " + printed + " in place of " + wanted, printed.equals(wanted) ? 1 : 0, 1);
    }

    private static List<String> printedBy(String code) throws IOException, InterruptedException {
        Path room = Files.createTempDirectory("readme");
        try {
            Path file = room.resolve("Example.java");
            Files.writeString(file, code);
            StringWriter said = new StringWriter();
            run(said, "javac", "-d", room.toString(), "src/main/java/SpokenBite.java", file.toString());
            run(said, "java", "-cp", room.toString(), "Example");
            return said.toString().lines().toList();
        } finally {
            remove(room);
        }
    }

    private static void run(StringWriter said, String... command) throws IOException, InterruptedException {
        Process process = new ProcessBuilder(command).redirectErrorStream(true).start();
        said.write(new String(process.getInputStream().readAllBytes(), StandardCharsets.UTF_8));
        DUE.due(command[0] + " ends well", process.waitFor(), 0);
    }

    private static void remove(Path room) throws IOException {
        try (Stream<Path> files = Files.list(room)) {
            for (Path file : files.toList()) {
                Files.delete(file);
            }
        }
        Files.delete(room);
    }

    /** Each call stands in a table once, with as many arguments as it takes; nothing else does. */
    private static void calls(String page) {
        List<String> told = new ArrayList<>();
        for (String line : page.lines().toList()) {
            Matcher call = TOLD.matcher(line);
            if (call.matches()) {
                told.add(call.group(1) + " " + (call.group(2).isEmpty() ? 0 : call.group(2).split(",").length));
            }
        }
        int calls = 0;
        for (Method method : SpokenBite.class.getDeclaredMethods()) {
            if (Modifier.isPublic(method.getModifiers())) {
                calls++;
                String call = method.getName() + " " + method.getParameterCount();
                DUE.due(call + " is told", told.contains(call) ? 1 : 0, 1);
            }
        }
        DUE.due("calls that are told", told.size(), calls);
    }

    private static void tests(String page) throws IOException {
        try (Stream<Path> files = Files.list(Path.of("tests"))) {
            for (Path file : files.toList()) {
                String name = file.getFileName().toString().replace(".java", "");
                DUE.due(name + " is told", page.contains("`" + name + "`") ? 1 : 0, 1);
            }
        }
    }
}
