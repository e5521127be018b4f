import java.io.ByteArrayOutputStream;
import java.io.PrintStream;
import java.net.URL;
import java.net.URLClassLoader;
import java.nio.charset.StandardCharsets;
import java.nio.file.Files;
import java.nio.file.Path;
import java.util.spi.ToolProvider;

/** README.md's example compiles and prints what README.md says. */
public final class ReadmeTest {
    private ReadmeTest() {
    }

    public static void main(String[] args) throws Exception {
        String readme = Files.readString(Path.of("README.md"));
        int example = readme.indexOf("```java\n");
        int printed = readme.indexOf("```text\n", example);
        Kit.due("an example and what it prints", example >= 0 && printed > example, true);
        Kit.due("the example prints", run(block(readme, example)), block(readme, printed));
        Kit.due("the text that README.md calls faulty", Kit.telling("max y ;"), "2 at 4");
        Kit.done();
    }

    private static String block(String text, int fence) {
        int first = text.indexOf('\n', fence) + 1;
        return text.substring(first, text.indexOf("```", first));
    }

    private static String run(String source) throws Exception {
        Path dir = Files.createTempDirectory("readme");
        Path file = Files.writeString(dir.resolve("Example.java"), source);
        URL classes = OptimumHouse.class.getProtectionDomain().getCodeSource().getLocation();
        int code = ToolProvider.findFirst("javac").orElseThrow().run(System.out, System.out, "-d", dir.toString(),
            "-cp", Path.of(classes.toURI()).toString(), file.toString());
        Kit.due("javac", code, 0);
        PrintStream before = System.out;
        ByteArrayOutputStream bytes = new ByteArrayOutputStream();
        System.setOut(new PrintStream(bytes, true, StandardCharsets.UTF_8));
        try (URLClassLoader loader = new URLClassLoader(new URL[] {dir.toUri().toURL()})) {
            loader.loadClass("Example").getMethod("main", String[].class).invoke(null, (Object) new String[0]);
        } finally {
            System.setOut(before);
            Files.deleteIfExists(dir.resolve("Example.class"));
            Files.delete(file);
            Files.delete(dir);
        }
        return bytes.toString(StandardCharsets.UTF_8).replace("\r\n", "\n");
    }
}
