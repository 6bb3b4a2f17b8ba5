import java.io.ByteArrayOutputStream;
import java.io.IOException;
import java.io.PrintStream;
import java.net.URL;
import java.net.URLClassLoader;
import java.nio.charset.StandardCharsets;
import java.nio.file.Files;
import java.nio.file.Path;
import java.util.Comparator;
import java.util.List;
import java.util.stream.Stream;
import java.util.regex.Matcher;
import java.util.regex.Pattern;
import javax.tools.ToolProvider;

/** README.md: its example compiles and prints what it says; each call of the face stands in it. */
public final class ReadmeTest {
    private static final Checks C = new Checks("ReadmeTest");

    public static void main(String[] args) throws Exception {
        String readme = Files.readString(Path.of("README.md"));
        example(block(readme, "java"), block(readme, "text"));
        calls(readme);
        C.is("it says how to run the tests", readme.contains("\n    .ci/run\n"), true);
        C.end();
    }

    /** The first fenced block of a language. */
    private static String block(String readme, String language) {
        Matcher m = Pattern.compile("(?s)```" + language + "\n(.*?)```").matcher(readme);
        C.is("it has a block of " + language, m.find(), true);
        return m.group(1);
    }

    private static void example(String source, String due) throws Exception {
        Path dir = Files.createTempDirectory("readme");
        try {
            Path file = Files.writeString(dir.resolve("Example.java"), source);
            int code = ToolProvider.getSystemJavaCompiler().run(null, null, null, "-d", dir.toString(),
                    "-cp", System.getProperty("java.class.path"), file.toString());
            C.is("its example compiles: javac", code, 0);
            String got = printed(dir);
            if (!got.equals(due)) {
                System.out.println("the example prints\n" + got + "and not\n" + due);
            }
            C.is("its example prints what it says", got.equals(due), true);
        } finally {
            remove(dir);
        }
    }

    private static String printed(Path dir) throws Exception {
        PrintStream before = System.out;
        ByteArrayOutputStream bytes = new ByteArrayOutputStream();
        try (URLClassLoader loader = new URLClassLoader(new URL[] {dir.toUri().toURL()})) {
            System.setOut(new PrintStream(bytes, true, StandardCharsets.ISO_8859_1));
            loader.loadClass("Example").getMethod("main", String[].class).invoke(null, (Object) new String[0]);
        } finally {
            System.setOut(before);
        }
        return bytes.toString(StandardCharsets.ISO_8859_1).replace(System.lineSeparator(), "\n");
    }

    private static void remove(Path dir) throws IOException {
        List<Path> all;
        try (Stream<Path> walk = Files.walk(dir)) {
            all = walk.sorted(Comparator.reverseOrder()).toList();
        }
        for (Path path : all) {
            Files.delete(path);
        }
    }

    private static void calls(String readme) {
        for (java.lang.reflect.Method m : GraftQuarrel.class.getDeclaredMethods()) {
            if (java.lang.reflect.Modifier.isPublic(m.getModifiers())) {
                C.is("it names " + m.getName(), readme.contains("`" + m.getName() + "`"), true);
            }
        }
    }
}
