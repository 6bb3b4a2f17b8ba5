import com.sun.management.ThreadMXBean;
import java.io.IOException;
import java.lang.management.ManagementFactory;
import java.nio.file.Files;
import java.nio.file.Path;

/**
 * The room that all calls of a run share: an object is small, and its calls make none. Rules of
 * LANGUAGE.md that can be seen in the text of the class.
 */
public final class RoomTest {
    private static final Checks C = new Checks("RoomTest");
    private static final String TEXT = Checks.HEAD + ";" + String.join(";", NowTest.BASE);

    private static long sum = 0;

    public static void main(String[] args) throws IOException {
        calls();
        words();
        C.end();
    }

    private static void calls() {
        ThreadMXBean threads = (ThreadMXBean) ManagementFactory.getThreadMXBean();
        long id = Thread.currentThread().getId();
        for (int i = 0; i < 3; i++) {
            useAll(Checks.ofText(TEXT));
        }
        GraftQuarrel x = Checks.ofText(TEXT);
        long before = threads.getThreadAllocatedBytes(id);
        useAll(x);
        long used = threads.getThreadAllocatedBytes(id) - before;
        C.is("bytes that calls make are few (" + used + ")", used < 2000, true);
        before = threads.getThreadAllocatedBytes(id);
        GraftQuarrel y = new GraftQuarrel();
        used = threads.getThreadAllocatedBytes(id) - before;
        sum += y.size(0);
        C.is("bytes of an object are few (" + used + ")", used < 40000, true);
    }

    private static void useAll(GraftQuarrel x) {
        for (int n = 0; n < 6; n++) {
            sum += x.feed(n, n, n, n, n) + x.fault() + x.where() + x.quarrel(n, n) + x.parties(n) + x.bound(n)
                    + x.peace() + x.stand() + x.feud(n) + x.vigour(n, n) + x.fruits(n, n) + x.first(n) + x.fallen(n)
                    + x.suckers(n) + x.quiet(n) + x.peaceBy() + x.worst(n) + x.spared(n, n) + x.odds(n, 0)
                    + x.grafted(1, 0, n) + x.bestGraft(n) + x.left() + x.surest(true) + x.takes(false) + x.surestAt(n)
                    + x.prune(n, n) + x.pruneAt(0, n, 0) + x.feedFor(n, n) + x.feedAgainst(n, n, n)
                    + x.share(n, n, n) + x.game(n, n, n, true) + x.rests(n) + x.rest(n) + x.ways() + x.wayAt(n)
                    + x.judge() + x.year(n) + x.years(n, n) + x.nourish(n, n) + x.cut(n, n) + x.season()
                    + x.image() + x.size(n) + x.trouble() + x.valley(20);
        }
        sum += x.graft(1, 0) + x.surest(false) + (x.undo() ? 1 : 0) + (x.back(0) ? 1 : 0);
    }

    private static void words() throws IOException {
        String text = Files.readString(Path.of("src/main/java/GraftQuarrel.java"))
                .replaceAll("(?s)/\\*.*?\\*/", "").replaceAll("//[^\n]*", "");
        for (String word : new String[] {"catch", "try", "finally", "synchronized", "assert", "double", "float",
            "System", "Thread", "Object", "hashCode", "toString", "lambda", "protected"}) {
            C.is("the class has '" + word + "'", text.matches("(?s).*\\b" + word + "\\b.*"), false);
        }
        C.is("the class has a lambda", text.contains("->"), false);
        C.is("the class has a method reference", text.contains("::"), false);
        C.is("the class throws in one place", text.split("\\bthrow\\b", -1).length, 2);
        C.is("the class imports one name", text.split("\\bimport\\b", -1).length, 2);
    }
}
