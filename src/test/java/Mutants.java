import java.io.IOException;
import java.io.StringWriter;
import java.io.UncheckedIOException;
import java.nio.file.Files;
import java.nio.file.Path;
import java.util.ArrayList;
import java.util.List;
import java.util.concurrent.ExecutorService;
import java.util.concurrent.Executors;
import java.util.concurrent.Future;
import java.util.concurrent.TimeUnit;
import java.util.regex.Matcher;
import java.util.regex.Pattern;
import javax.tools.JavaCompiler;
import javax.tools.ToolProvider;

/**
 * Breaks the class in one place after the other and tells which breaks a test doesn't see. Not
 * a test: it takes minutes, and some breaks change nothing that can be asked. By hand:
 * java -cp OUT Mutants OUT [the test's name], OUT being where all is compiled to.
 */
public final class Mutants {
    private static final String SOURCE = "src/main/java/GraftQuarrel.java";
    // What is looked for, and what stands there instead.
    private static final String[][] BREAKS = {
        {" < ", " <= "}, {" <= ", " < "}, {" > ", " >= "}, {" >= ", " > "}, {" == ", " != "}, {" != ", " == "},
        {" < ", " > "}, {" > ", " < "}, {" && ", " || "}, {" || ", " && "}, {" + ", " - "}, {" - ", " + "},
        {" * ", " + "}, {" / ", " * "}, {" % ", " / "}, {" += ", " -= "}, {" -= ", " += "}, {" += ", " = "},
        {" |= ", " = "}, {"++;", "--;"}, {"--;", "++;"}, {"(!", "("}, {"&& !", "&& "}, {"|| !", "|| "},
        {"Math.max", "Math.min"}, {"Math.min", "Math.max"}, {"true", "false"}, {"false", "true"},
        {"(NO_SUCH)", "(NUMBER)"}, {"(NUMBER)", "(NO_SUCH)"}, {"(NOT_SO)", "(NUMBER)"}, {"(NO_ROOM)", "(NO_SUCH)"},
        {"(THERE_IS_NONE)", "(NO_SUCH)"}, {"(FORM)", "(UNTOLD)"}, {"(UNTOLD)", "(AGAIN)"}, {"(AGAIN)", "(UNTOLD)"},
        {"(BOUNDS)", "(AGAIN)"}, {"(MANY)", "(LACKS)"}, {"(LACKS)", "(MANY)"}, {"NO_ONE", "NONE"},
        {"return answer(", "return ("}, {"refuse(", "answer(-"},
    };

    private record Mutant(int line, String was, String is, String text) {
    }

    private Mutants() {
    }

    public static void main(String[] args) throws Exception {
        Path out = Path.of(args[0]);
        String test = args.length > 1 ? args[1] : "BoundaryTest";
        List<Mutant> all = mutants(Files.readString(Path.of(SOURCE)));
        ExecutorService pool = Executors.newFixedThreadPool(Runtime.getRuntime().availableProcessors());
        List<Future<String>> fates = new ArrayList<>();
        for (Mutant m : all) {
            fates.add(pool.submit(() -> fate(m, out, test)));
        }
        int unseen = 0;
        for (int i = 0; i < all.size(); i++) {
            Mutant m = all.get(i);
            if (fates.get(i).get().equals("unseen")) {
                unseen++;
                System.out.println(m.line + ": " + m.was.strip() + "\n    -> " + m.is.strip());
            }
        }
        pool.shutdown();
        System.out.println(all.size() + " breaks, " + unseen + " unseen");
    }

    private static List<Mutant> mutants(String text) {
        List<Mutant> all = new ArrayList<>();
        String[] lines = text.split("\n");
        for (int i = 0; i < lines.length; i++) {
            String line = lines[i];
            String bare = line.strip();
            if (bare.startsWith("//") || bare.startsWith("*") || bare.startsWith("/*") || bare.startsWith("import")) {
                continue;
            }
            for (String[] b : BREAKS) {
                for (int at = line.indexOf(b[0]); at >= 0; at = line.indexOf(b[0], at + 1)) {
                    add(all, lines, i, line.substring(0, at) + b[1] + line.substring(at + b[0].length()));
                }
            }
            Matcher number = Pattern.compile("(?<![\\w\"])[0-9]+(?![\\w\"])").matcher(line);
            while (number.find()) {
                int value = Integer.parseInt(number.group());
                for (int other : new int[] {value - 1, value + 1}) {
                    add(all, lines, i, line.substring(0, number.start()) + other + line.substring(number.end()));
                }
            }
            if (bare.matches("[a-z][\\w.\\[\\]]*( [|+-]?= .*|\\(.*\\)|\\+\\+|--);")) {
                add(all, lines, i, "");
            }
        }
        return all;
    }

    private static void add(List<Mutant> all, String[] lines, int i, String broken) {
        String[] copy = lines.clone();
        copy[i] = broken;
        all.add(new Mutant(i + 1, lines[i], broken, String.join("\n", copy) + "\n"));
    }

    private static String fate(Mutant m, Path out, String test) {
        try {
            Path room = Files.createTempDirectory("mutant");
            Path file = room.resolve("GraftQuarrel.java");
            Files.writeString(file, m.text);
            JavaCompiler compiler = ToolProvider.getSystemJavaCompiler();
            StringWriter told = new StringWriter();
            boolean made = compiler.getTask(told, null, null, List.of("-d", room.toString()), null,
                    compiler.getStandardFileManager(null, null, null).getJavaFileObjects(file)).call();
            if (!made) {
                return "no program";
            }
            Process p = new ProcessBuilder("java", "-XX:TieredStopAtLevel=1", "-cp", room + ":" + out, test)
                    .redirectErrorStream(true).redirectOutput(ProcessBuilder.Redirect.DISCARD).start();
            boolean ended = p.waitFor(60, TimeUnit.SECONDS);
            p.destroyForcibly();
            return ended && p.exitValue() == 0 ? "unseen" : "seen";
        } catch (IOException e) {
            throw new UncheckedIOException(e);
        } catch (InterruptedException e) {
            throw new IllegalStateException(e);
        }
    }
}
