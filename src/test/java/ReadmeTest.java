import java.lang.reflect.Method;
import java.lang.reflect.Modifier;
import java.net.URL;
import java.net.URLClassLoader;
import java.nio.file.Files;
import java.nio.file.Path;
import java.util.ArrayList;
import java.util.List;
import java.util.function.Supplier;
import java.util.regex.Matcher;
import java.util.regex.Pattern;

/**
 * The example of README.md, which is compiled and run as it stands there. A line "call; // answer: words" tells what
 * the call answers; all other lines are plain Java.
 */
final class ReadmeTest {
    private static final Due DUE = new Due("ReadmeTest");
    private static final Path README = Path.of("README.md");
    private static final Pattern TOLD =
            Pattern.compile("(dock\\.\\w+\\(.*\\));\\s*// (-?[\\d.]+|true|false|throws \\w+)(:.*)?");

    public static void main(String[] args) throws Exception {
        String readme = Files.readString(README);
        List<String> calls = new ArrayList<>();
        List<String> answers = new ArrayList<>();
        StringBuilder body = new StringBuilder();
        for (String line : example(readme).split("\n")) {
            Matcher told = TOLD.matcher(line);
            if (told.matches()) {
                calls.add(told.group(1));
                answers.add(told.group(2));
                body.append("try { got.add(String.valueOf(").append(told.group(1)).append(")); }\n")
                        .append("catch (RuntimeException e) { got.add(\"throws \" + e.getClass().getSimpleName()); }\n");
            } else {
                body.append(line).append('\n');
            }
        }
        List<String> got = run(body.toString());
        DUE.is("answers of the example", got.size(), answers.size());
        for (int i = 0; i < answers.size(); i++) {
            DUE.is(calls.get(i), got.get(i), answers.get(i));
        }
        everyCallIsNamed(readme);
        DUE.end();
    }

    private static String example(String readme) {
        Matcher block = Pattern.compile("(?s)```java\n(.*?)```").matcher(readme);
        return block.find() ? block.group(1) : "";
    }

    private static List<String> run(String body) throws Exception {
        Path folder = Files.createTempDirectory("readme");
        Path source = folder.resolve("ReadmeExample.java");
        Files.writeString(source, "public final class ReadmeExample\n"
                + "implements java.util.function.Supplier<java.util.List<String>> {\n"
                + "public java.util.List<String> get() {\n"
                + "java.util.List<String> got = new java.util.ArrayList<>();\n" + body + "return got;\n}\n}\n");
        int result = new ProcessBuilder("javac", "-encoding", "UTF-8", "-cp", System.getProperty("java.class.path"),
                "-d", folder.toString(), source.toString()).inheritIO().start().waitFor();
        DUE.is("javac on the example", result, 0);
        if (result != 0) {
            return List.of();
        }
        try (URLClassLoader loader = new URLClassLoader(new URL[] {folder.toUri().toURL()})) {
            Object made = loader.loadClass("ReadmeExample").getDeclaredConstructor().newInstance();
            List<String> got = new ArrayList<>();
            for (Object answer : (List<?>) ((Supplier<?>) made).get()) {
                got.add(answer.toString());
            }
            return got;
        } finally {
            Files.deleteIfExists(source);
            Files.deleteIfExists(folder.resolve("ReadmeExample.class"));
            Files.deleteIfExists(folder);
        }
    }

    private static void everyCallIsNamed(String readme) {
        for (Method method : KeelBlocks.class.getDeclaredMethods()) {
            if (Modifier.isPublic(method.getModifiers())) {
                DUE.is(method.getName() + " is named", readme.contains("`" + method.getName() + "`"), true);
            }
        }
    }

    private ReadmeTest() {
    }
}
