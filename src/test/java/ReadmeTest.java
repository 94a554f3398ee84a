import java.io.IOException;
import java.lang.reflect.Method;
import java.lang.reflect.Modifier;
import java.net.URL;
import java.net.URLClassLoader;
import java.nio.file.Files;
import java.nio.file.Path;
import java.util.ArrayList;
import java.util.List;
import java.util.regex.Matcher;
import java.util.regex.Pattern;
import javax.tools.ToolProvider;

/** The examples of README.md are compiled as they stand there and answer what they say they do. */
public final class ReadmeTest {
    private static final Pattern BLOCK = Pattern.compile("```java\n(.*?)```", Pattern.DOTALL);
    private static final Pattern ANSWER = Pattern.compile("int (\\w+) = map\\.(\\w+)\\(.*; +// (-?\\d+): .*");

    public static void main(String[] args) throws Exception {
        Check.sentence("README.md", "the number behind // is what the call answers");
        List<String> blocks = blocks(Files.readString(Path.of("README.md")));
        Check.same("blocks of code", "2", String.valueOf(blocks.size()));
        everyCallIsShown(blocks.get(1));
        Path folder = Files.createTempDirectory("readme");
        try {
            runExample(folder, source(blocks.get(0), blocks.get(1)));
        } finally {
            remove(folder);
        }
        Check.end();
    }

    /** Called by the example, for each of its answers. */
    public static void compare(String call, int due, int got) {
        Check.same(call, String.valueOf(due), String.valueOf(got));
    }

    private static List<String> blocks(String text) {
        List<String> found = new ArrayList<>();
        Matcher block = BLOCK.matcher(text);
        while (block.find()) {
            found.add(block.group(1));
        }
        return found;
    }

    private static void everyCallIsShown(String example) {
        for (Method method : AddressWords.class.getDeclaredMethods()) {
            if (Modifier.isPublic(method.getModifiers())) {
                Check.same(method.getName() + " is shown", "true",
                        String.valueOf(example.contains("map." + method.getName() + "(")));
            }
        }
    }

    private static String source(String member, String example) {
        StringBuilder text = new StringBuilder("public final class ReadmeExample {\n").append(member)
                .append("public static void run() {\n");
        for (String line : example.split("\n")) {
            text.append(line).append('\n');
            Matcher answer = ANSWER.matcher(line);
            if (answer.matches()) {
                text.append("ReadmeTest.compare(\"").append(answer.group(1)).append(" of ").append(answer.group(2))
                        .append("\", ").append(answer.group(3)).append(", ").append(answer.group(1)).append(");\n");
            } else {
                Check.same("a line without an answer: " + line, "false", String.valueOf(line.startsWith("int ")));
            }
        }
        return text.append("}\n}\n").toString();
    }

    private static void runExample(Path folder, String source) throws Exception {
        Path file = folder.resolve("ReadmeExample.java");
        Files.writeString(file, source);
        int exit = ToolProvider.getSystemJavaCompiler().run(null, null, null,
                "-cp", System.getProperty("java.class.path"), "-d", folder.toString(), file.toString());
        Check.same("javac of the example", "0", String.valueOf(exit));
        if (exit == 0) {
            try (URLClassLoader loader = new URLClassLoader(new URL[] {folder.toUri().toURL()})) {
                loader.loadClass("ReadmeExample").getMethod("run").invoke(null);
            }
        }
    }

    private static void remove(Path folder) throws IOException {
        Files.deleteIfExists(folder.resolve("ReadmeExample.java"));
        Files.deleteIfExists(folder.resolve("ReadmeExample.class"));
        Files.deleteIfExists(folder);
    }
}
