import java.io.ByteArrayOutputStream;
import java.io.IOException;
import java.io.PrintStream;
import java.lang.reflect.Method;
import java.lang.reflect.Modifier;
import java.net.URL;
import java.net.URLClassLoader;
import java.nio.charset.StandardCharsets;
import java.nio.file.Files;
import java.nio.file.Path;
import javax.tools.ToolProvider;

/** README.md holds what it says: its example prints what stands there, and no call of the face is left out. */
public final class ReadmeTest {
    private static final Check CHECK = new Check("ReadmeTest");
    private static final String THROWS_TITLE = "### Which calls throw";

    private final String page;

    private ReadmeTest(String page) {
        this.page = page;
    }

    public static void main(String[] args) throws Exception {
        ReadmeTest test = new ReadmeTest(Files.readString(Path.of("README.md"), StandardCharsets.UTF_8));
        test.theExamplePrintsWhatItSays();
        test.everyCallIsTold();
        CHECK.end();
    }

    private String block(String language) {
        String mark = "```" + language + "\n";
        int start = page.indexOf(mark);
        CHECK.due("a block of " + language, start >= 0, true);
        int from = start + mark.length();
        return start < 0 ? "" : page.substring(from, page.indexOf("```", from));
    }

    private void theExamplePrintsWhatItSays() throws Exception {
        String printed = runExample(block("java"));
        boolean same = printed.equals(block("text"));
        CHECK.due("the example prints what stands there", same, true);
        if (!same) {
            System.out.println(printed);
        }
    }

    private static String runExample(String lines) throws Exception {
        Path folder = Files.createTempDirectory("readme");
        try {
            Path source = folder.resolve("Example.java");
            Files.writeString(source, "public class Example { public static void main(String[] a) {\n" + lines + "}}\n");
            int failed = ToolProvider.getSystemJavaCompiler().run(null, null, null, "-d", folder.toString(),
                    "-cp", System.getProperty("java.class.path"), source.toString());
            CHECK.due("the example compiles", failed, 0);
            return failed == 0 ? printedBy(folder) : "";
        } finally {
            deleteAll(folder);
        }
    }

    private static String printedBy(Path folder) throws Exception {
        PrintStream usual = System.out;
        ByteArrayOutputStream bytes = new ByteArrayOutputStream();
        try (URLClassLoader loader = new URLClassLoader(new URL[] {folder.toUri().toURL()})) {
            System.setOut(new PrintStream(bytes, true, StandardCharsets.UTF_8));
            Method main = loader.loadClass("Example").getMethod("main", String[].class);
            main.invoke(null, (Object) new String[0]);
        } finally {
            System.setOut(usual);
        }
        return bytes.toString(StandardCharsets.UTF_8).replace(System.lineSeparator(), "\n");
    }

    private static void deleteAll(Path folder) throws IOException {
        try (var files = Files.list(folder)) {
            for (Path file : (Iterable<Path>) files::iterator) {
                Files.delete(file);
            }
        }
        Files.delete(folder);
    }

    private void everyCallIsTold() {
        int start = page.indexOf(THROWS_TITLE);
        CHECK.due(THROWS_TITLE, start >= 0, true);
        String thrown = start < 0 ? "" : page.substring(start, page.indexOf("\n## ", start));
        for (Method call : LowEnergy.class.getDeclaredMethods()) {
            if (Modifier.isPublic(call.getModifiers())) {
                String name = call.getName();
                CHECK.due(name + " is told", page.contains("| `" + name + "("), true);
                CHECK.due(name + " is told to throw", thrown.contains("- `" + name + "` throws"),
                        call.getExceptionTypes().length > 0);
            }
        }
    }
}
