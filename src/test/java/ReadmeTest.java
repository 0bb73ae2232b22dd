import java.io.ByteArrayOutputStream;
import java.io.IOException;
import java.io.PrintStream;
import java.net.URL;
import java.net.URLClassLoader;
import java.nio.charset.StandardCharsets;
import java.nio.file.Files;
import java.nio.file.Path;
import java.util.ArrayList;
import java.util.List;
import javax.tools.ToolProvider;

/** The example of use that README.md gives is compiled and run as it stands there, and prints what stands there. */
final class ReadmeTest {
    public static void main(String[] args) throws Exception {
        String readme = Files.readString(Path.of("README.md"));
        example(readme);
        names(readme);
        Dues.close("ReadmeTest");
    }

    /** What stands in README.md behind a line of a kind, up to the line that ends it. */
    private static String block(String readme, String kind) {
        String begin = "\n```" + kind + "\n";
        int from = readme.indexOf(begin);
        int to = readme.indexOf("\n```\n", from + 1);
        boolean isThere = from >= 0 && to > from && readme.indexOf(begin, to) < 0;
        Dues.due("one block of " + kind, true, isThere);
        return isThere ? readme.substring(from + begin.length(), to + 1) : "";
    }

    private static void example(String readme) throws Exception {
        Path folder = Files.createTempDirectory("readme");
        try {
            Path source = folder.resolve("Example.java");
            Files.writeString(source, block(readme, "java"));
            ByteArrayOutputStream said = new ByteArrayOutputStream();
            int code = ToolProvider.getSystemJavaCompiler().run(null, said, said, "-Xlint:all", "-proc:none", "-d", folder.toString(),
                source.toString(), "src/main/java/Blockloom.java");
            Dues.due("javac says of the example", "", said.toString(StandardCharsets.UTF_8));
            Dues.due("javac ends with", 0, code);
            if (code == 0) Dues.due("the example prints", block(readme, "text"), printed(folder));
        } finally {
            remove(folder);
        }
    }

    private static String printed(Path folder) throws Exception {
        PrintStream former = System.out;
        ByteArrayOutputStream bytes = new ByteArrayOutputStream();
        ClassLoader none = ClassLoader.getPlatformClassLoader();
        try (URLClassLoader loader = new URLClassLoader(new URL[] {folder.toUri().toURL()}, none)) {
            System.setOut(new PrintStream(bytes, true));
            loader.loadClass("Example").getMethod("main", String[].class).invoke(null, (Object) new String[0]);
        } finally {
            System.setOut(former);
        }
        return bytes.toString(StandardCharsets.UTF_8).replace(System.lineSeparator(), "\n");
    }

    private static void remove(Path folder) throws IOException {
        List<Path> all = new ArrayList<>();
        try (var walk = Files.walk(folder)) {
            walk.forEach(all::add);
        }
        for (int index = all.size() - 1; index >= 0; index--) Files.delete(all.get(index));
    }

    /** README.md names each method of the face, and tells how to run the tests. */
    private static void names(String readme) {
        for (java.lang.reflect.Method method : Blockloom.class.getMethods()) {
            if (method.getDeclaringClass() != Blockloom.class) continue;
            Dues.due("README.md names " + method.getName(), true, readme.contains("`" + method.getName() + "`"));
        }
        Dues.due("how to run the tests", true, readme.contains("    .ci/run\n"));
    }
}
