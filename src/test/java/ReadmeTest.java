import java.io.IOException;
import java.lang.reflect.Method;
import java.lang.reflect.Modifier;
import java.net.URL;
import java.net.URLClassLoader;
import java.nio.file.Files;
import java.nio.file.Path;
import java.util.ArrayList;
import java.util.List;
import java.util.regex.Matcher;
import java.util.regex.Pattern;

/** README.md tells answers behind the calls of its example: they are the program's answers. */
public final class ReadmeTest {
    private static final Pattern TOLD =
        Pattern.compile("(office\\..*\\));\\s*// (-?\\d+|true|false|throws\\.\\w+)(?::.*)?");
    private static final String NAME = "ReadmeExample";

    private static final List<String> calls = new ArrayList<>();
    private static final List<String> dues = new ArrayList<>();

    public static void main(String[] args) throws Exception {
        String source = sourceOf(exampleLines());
        Path made = Files.createTempDirectory("readme");
        List<?> answers = answersOf(source, made);
        Check.same("README.md tells answers", true, calls.size() > 20);
        for (int i = 0; i < calls.size(); i++) {
            Check.same("README.md: " + calls.get(i), dues.get(i), answers.get(i));
        }
        everyCallIsNamed();
        Check.end("ReadmeTest");
    }

    private static List<String> exampleLines() throws IOException {
        List<String> lines = new ArrayList<>();
        boolean isInside = false;
        for (String line : Files.readAllLines(Path.of("README.md"))) {
            if (line.startsWith("```")) {
                isInside = line.equals("```java");
            } else if (isInside) {
                lines.add(line);
            }
        }
        return lines;
    }

    /** A class of the example, in which each call with an answer behind it keeps what it answered. */
    private static String sourceOf(List<String> lines) {
        StringBuilder source = new StringBuilder("public final class " + NAME + " {\n"
            + "private static final java.util.List<String> all = new java.util.ArrayList<>();\n"
            + "private static void keep(java.util.concurrent.Callable<?> call) {\n"
            + "try { all.add(String.valueOf(call.call())); }\n"
            + "catch (Exception e) { all.add(\"throws.\" + e.getClass().getSimpleName()); } }\n"
            + "public static java.util.List<String> answers() {\n");
        for (String line : lines) {
            Matcher told = TOLD.matcher(line.trim());
            if (told.matches()) {
                calls.add(told.group(1));
                dues.add(told.group(2));
                source.append("keep(() -> ").append(told.group(1)).append(");\n");
            } else {
                source.append(line).append('\n');
            }
        }
        return source.append("return all; } }\n").toString();
    }

    private static List<?> answersOf(String source, Path made) throws Exception {
        Path file = made.resolve(NAME + ".java");
        try {
            Files.writeString(file, source);
            Process compiler = new ProcessBuilder("javac", "-encoding", "UTF-8", "-cp",
                System.getProperty("java.class.path"), "-d", made.toString(), file.toString()).inheritIO().start();
            if (compiler.waitFor() != 0) {
                throw new AssertionError("the example of README.md does not compile");
            }
            return run(made);
        } finally {
            for (Path path : allIn(made)) {
                Files.deleteIfExists(path);
            }
            Files.deleteIfExists(made);
        }
    }

    private static List<Path> allIn(Path made) throws IOException {
        List<Path> paths = new ArrayList<>();
        try (var stream = Files.newDirectoryStream(made)) {
            stream.forEach(paths::add);
        }
        return paths;
    }

    private static List<?> run(Path made) throws Exception {
        try (URLClassLoader loader = new URLClassLoader(new URL[] {made.toUri().toURL()})) {
            return (List<?>) loader.loadClass(NAME).getMethod("answers").invoke(null);
        }
    }

    private static void everyCallIsNamed() throws IOException {
        String text = Files.readString(Path.of("README.md"));
        for (Method method : RankStock.class.getDeclaredMethods()) {
            if (Modifier.isPublic(method.getModifiers())) {
                String name = method.getName();
                boolean isNamed = text.contains("`" + name + "`") || text.contains("office." + name + "(");
                Check.same("README.md names " + name, true, isNamed);
            }
        }
    }
}
