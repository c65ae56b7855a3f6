import java.io.ByteArrayOutputStream;
import java.io.IOException;
import java.io.PrintStream;
import java.net.URL;
import java.net.URLClassLoader;
import java.nio.file.Files;
import java.nio.file.Path;
import java.util.Comparator;
import java.util.List;
import java.util.stream.Stream;
import javax.tools.ToolProvider;

/** The program in README.md compiles, and prints what README.md says. */
public final class ReadmeTest {
    private static final Path README = Path.of("README.md");

    public static void main(String[] args) throws Exception {
        String text = Files.readString(README);
        Path room = Files.createTempDirectory("readme");
        try {
            Kit.due("what the example prints", printed(block(text, "java"), room), block(text, "text"));
        } finally {
            remove(room);
        }
        namesEachTest(text);
        Kit.end("ReadmeTest");
    }

    private static String block(String text, String language) {
        String head = "```" + language + "\n";
        int begin = text.indexOf(head) + head.length();
        Kit.due("just one block of " + language, text.indexOf(head) >= 0 && text.indexOf(head, begin) < 0, true);
        return text.substring(begin, text.indexOf("```", begin));
    }

    private static String printed(String program, Path room) throws Exception {
        Path source = room.resolve("Example.java");
        Files.writeString(source, program);
        String classes = System.getProperty("java.class.path");
        int failed = ToolProvider.getSystemJavaCompiler().run(null, null, null, "-cp", classes, "-d", room.toString(), source.toString());
        Kit.due("the example compiles", failed, 0);
        if (failed != 0) {
            return "";
        }
        ByteArrayOutputStream bytes = new ByteArrayOutputStream();
        PrintStream console = System.out;
        try (URLClassLoader loader = new URLClassLoader(new URL[] {room.toUri().toURL()}, ReadmeTest.class.getClassLoader())) {
            System.setOut(new PrintStream(bytes, true));
            loader.loadClass("Example").getMethod("main", String[].class).invoke(null, (Object) new String[0]);
        } finally {
            System.setOut(console);
        }
        return bytes.toString().replace("\r", "");
    }

    private static void namesEachTest(String text) throws IOException {
        try (Stream<Path> files = Files.list(Path.of("src/test/java"))) {
            for (Path file : files.toList()) {
                String name = file.getFileName().toString().replace(".java", "");
                if (name.endsWith("Test")) {
                    Kit.due("README.md names " + name, text.contains("- `" + name + "`") || text.contains("; `" + name + "`"), true);
                }
            }
        }
    }

    private static void remove(Path room) throws IOException {
        List<Path> files;
        try (Stream<Path> all = Files.walk(room)) {
            files = all.sorted(Comparator.reverseOrder()).toList();
        }
        for (Path file : files) {
            Files.delete(file);
        }
    }
}
