import java.io.ByteArrayOutputStream;
import java.io.File;
import java.io.PrintStream;
import java.net.URL;
import java.net.URLClassLoader;
import java.nio.charset.StandardCharsets;
import java.nio.file.Files;
import java.nio.file.Path;
import java.util.stream.Stream;
import javax.tools.JavaCompiler;
import javax.tools.ToolProvider;

/** README.md: its example compiles as it is printed there, with the class alone, and prints what is printed there. */
final class ReadmeTest {
    private static final String BEGIN = "```java\n";
    private static final String FENCE = "```\n";

    private ReadmeTest() {
    }

    static void run(String readme, String source) throws Exception {
        String text = Files.readString(Path.of(readme));
        int code = text.indexOf(BEGIN);
        int codeEnd = text.indexOf(FENCE, code + BEGIN.length());
        int prints = text.indexOf(FENCE, codeEnd + FENCE.length());
        int printsEnd = text.indexOf(FENCE, prints + FENCE.length());
        boolean isThere = code >= 0 && codeEnd > code && prints > codeEnd && printsEnd > prints;
        Check.is("README.md has an example and what it prints", isThere, true);
        if (isThere) {
            String printed = text.substring(prints + FENCE.length(), printsEnd);
            Check.isText("the example prints", runExample(text.substring(code + BEGIN.length(), codeEnd), source), printed);
        }
        Check.is("README.md tells how the tests are run", text.contains("bash .ci/run\n"), true);
    }

    private static String runExample(String code, String source) throws Exception {
        Path dir = Files.createTempDirectory("readme");
        try {
            Files.copy(Path.of(source), dir.resolve("Publicanry.java"));
            Files.writeString(dir.resolve("Example.java"), code);
            JavaCompiler compiler = ToolProvider.getSystemJavaCompiler();
            int failed = compiler.run(null, null, null, "-d", dir.toString(),
                dir.resolve("Publicanry.java").toString(), dir.resolve("Example.java").toString());
            return failed != 0 ? "it does not compile" : printedBy(dir);
        } finally {
            remove(dir);
        }
    }

    private static String printedBy(Path dir) throws Exception {
        PrintStream before = System.out;
        ByteArrayOutputStream printed = new ByteArrayOutputStream();
        ClassLoader none = ClassLoader.getPlatformClassLoader();
        try (URLClassLoader loader = new URLClassLoader(new URL[] {dir.toUri().toURL()}, none)) {
            System.setOut(new PrintStream(printed, true, StandardCharsets.UTF_8));
            loader.loadClass("Example").getMethod("main", String[].class).invoke(null, (Object) new String[0]);
        } finally {
            System.setOut(before);
        }
        return printed.toString(StandardCharsets.UTF_8).replace(System.lineSeparator(), "\n");
    }

    private static void remove(Path dir) throws Exception {
        try (Stream<Path> files = Files.list(dir)) {
            files.map(Path::toFile).forEach(File::delete);
        }
        Files.delete(dir);
    }
}
