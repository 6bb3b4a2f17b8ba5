import java.lang.reflect.InvocationTargetException;
import java.lang.reflect.Method;
import java.nio.charset.StandardCharsets;
import java.util.ArrayList;
import java.util.Arrays;
import java.util.Comparator;
import java.util.List;
import java.util.NoSuchElementException;
import java.util.Random;

/**
 * Runs of calls by a fixed seed, good and wrong arguments, good and spoilt texts: each answer,
 * and TROUBLE, fault() and where() behind it, must be those of Model, and nothing may be thrown
 * but what led() throws.
 */
public final class ModelTest {
    private static final long THROWN = Long.MIN_VALUE;
    private static final Checks C = new Checks("ModelTest");
    private static final String[] KINDS = {"land", "word", "love", "debt"};

    private final Random random;
    private final GraftQuarrel x = new GraftQuarrel();
    private final Model model = new Model();
    private final List<String> run = new ArrayList<>();

    private ModelTest(long seed) {
        random = new Random(seed);
    }

    public static void main(String[] args) throws Exception {
        int runs = args.length > 0 ? Integer.parseInt(args[0]) : 250;
        long from = args.length > 1 ? Long.parseLong(args[1]) : 1;
        Method[] methods = Arrays.stream(GraftQuarrel.class.getDeclaredMethods())
                .filter(m -> java.lang.reflect.Modifier.isPublic(m.getModifiers())).toArray(Method[]::new);
        Arrays.sort(methods, Comparator.comparing(Method::getName));
        for (int i = 0; i < runs; i++) {
            new ModelTest(from + i).go(methods);
        }
        C.end();
    }

    private void go(Method[] methods) throws Exception {
        if (random.nextInt(10) > 0) {
            tell(text());
        }
        for (int i = 0; i < 400; i++) {
            Method m = methods[random.nextInt(methods.length)];
            if (m.getName().equals("valley") && random.nextInt(4) > 0) {
                tell(random.nextInt(3) == 0 ? text() : spoilt(text()));
            } else if (!m.getName().equals("feed") || random.nextInt(20) == 0) {
                compare(m, argsFor(m));
            }
            if (random.nextInt(12) == 0) {
                compare(GraftQuarrel.class.getMethod("season"));
            }
            compareAround();
        }
    }

    private int below(int n) {
        return random.nextInt(n);
    }

    private int[] argsFor(Method m) {
        Class<?>[] types = m.getParameterTypes();
        int[] all = new int[types.length];
        for (int i = 0; i < all.length; i++) {
            if (types[i] == boolean.class) {
                all[i] = below(2);
            } else if (below(40) == 0) {
                all[i] = below(2) == 0 ? Integer.MIN_VALUE + below(3) : Integer.MAX_VALUE - below(3);
            } else {
                all[i] = ordinary(m.getName(), i);
            }
        }
        return all;
    }

    private int ordinary(String name, int i) {
        switch (name) {
            case "year": case "years":
                return i == 0 ? below(70000) - 10 : below(23) - 1;
            case "share":
                return i == 2 ? below(1100) - 20 : below(7);
            case "fallen": case "suckers": case "quiet": case "worst": case "bestGraft":
                return below(28) - 1;
            case "cut":
                return i == 1 ? below(12) : below(6);
            case "nourish":
                return i == 1 ? below(11) : below(6);
            case "vigour": case "fruits": case "spared": case "feedFor":
                return i == 1 ? below(28) - 1 : below(7);
            case "grafted":
                return i == 2 ? below(28) - 1 : below(6);
            case "prune": case "pruneAt":
                return i == 1 ? below(15) - 1 : i == 2 ? below(13) - 1 : below(6);
            case "feedAgainst":
                return i == 1 ? below(26) - 1 : i == 2 ? below(12) - 1 : below(6);
            case "size":
                return below(16) - 1;
            default:
                return below(8) - (below(10) == 0 ? 1 : 0);
        }
    }

    private void compare(Method m, int... args) throws Exception {
        Object[] boxed = new Object[args.length];
        for (int i = 0; i < args.length; i++) {
            boxed[i] = m.getParameterTypes()[i] == boolean.class ? (Object) (args[i] == 1) : (Object) args[i];
        }
        long got;
        try {
            Object answer = m.invoke(x, boxed);
            got = answer instanceof Boolean b ? (b ? 1 : 0) : ((Number) answer).longValue();
        } catch (InvocationTargetException e) {
            C.is(m.getName() + " throws " + e.getCause(), e.getCause() instanceof NoSuchElementException, true);
            got = THROWN;
        }
        long due;
        try {
            due = model.call(m.getName(), args);
        } catch (NoSuchElementException e) {
            due = THROWN;
        }
        String told = m.getName() + Arrays.toString(args);
        run.add(told + " -> " + due);
        if (got != due) {
            System.out.println("behind " + run);
        }
        C.is(told, got, due);
    }

    private void compareAround() throws Exception {
        for (String name : new String[] {"trouble", "fault", "where"}) {
            compare(GraftQuarrel.class.getMethod(name));
        }
        while (run.size() > 2000) {
            run.remove(1);
        }
    }

    private void tell(String text) throws Exception {
        run.clear();
        run.add(text);
        byte[] bytes = text.getBytes(StandardCharsets.ISO_8859_1);
        Method feed = GraftQuarrel.class.getMethod("feed", int.class, int.class, int.class, int.class, int.class);
        for (int at = 0; at < bytes.length; at += 20) {
            int[] five = new int[5];
            for (int i = 0; i < 20; i++) {
                int sign = at + i < bytes.length ? bytes[at + i] & 255 : 32;
                five[i / 4] = five[i / 4] << 8 | sign;
            }
            compare(feed, five);
        }
        int behind = below(5) == 0 ? below(20) : 0;
        compare(GraftQuarrel.class.getMethod("valley", int.class), bytes.length + behind);
    }

    private String text() {
        List<String> lines = new ArrayList<>();
        int families = 2 + below(5);
        int quarrels = 1 + below(6);
        lines.add("valley winter " + below(10) + " bears " + (4 + below(below(2) == 0 ? 8 : 27)) + " coins "
                + (1 + below(9)) + " " + (1 + below(9)) + " " + (1 + below(9)) + " " + (1 + below(3)));
        for (int f = 0; f < families; f++) {
            lines.add("family " + (char) ('a' + f) + " people " + (1 + below(below(2) == 0 ? 5 : 99)));
        }
        for (int q = 0; q < quarrels; q++) {
            int one = below(families);
            int other = (one + 1 + below(families - 1)) % families;
            lines.add("quarrel " + (char) ('p' + q) + " " + KINDS[below(below(2) == 0 ? 2 : 4)] + " of "
                    + (char) ('a' + one) + " " + (char) ('a' + other) + " vigour "
                    + below(below(2) == 0 ? 4 : 31));
        }
        addLaws(lines, below(11));
        for (int i = below(13); i > 0 && below(8) > 0; i--) {
            lines.add("deed " + (char) ('p' + below(quarrels)) + " season " + below(below(2) == 0 ? 8 : 24)
                    + " feeds " + (1 + below(9)));
        }
        for (int q = 0; q < quarrels; q++) {
            if (below(6) == 0) {
                lines.add("pot " + (char) ('p' + q));
            }
        }
        addFruits(lines, quarrels);
        return String.join(";", lines);
    }

    private void addLaws(List<String> lines, int count) {
        List<Integer> pairs = new ArrayList<>();
        for (int i = 0; i < 16; i++) {
            pairs.add(i);
        }
        java.util.Collections.shuffle(pairs, random);
        int odds = 1 + below(100);
        for (int i = 0; i < count; i++) {
            lines.add("law " + KINDS[pairs.get(i) / 4] + " on " + KINDS[pairs.get(i) % 4] + " odds "
                    + (below(2) == 0 ? odds : 1 + below(100)));
        }
    }

    /** Mostly the fruits that fall by some graft, so that something is explained. */
    private void addFruits(List<String> lines, int quarrels) {
        if (below(3) == 0) {
            for (int i = below(4); i > 0; i--) {
                lines.add("fell " + (char) ('p' + below(quarrels)) + " season " + (below(4) + 6 * i));
            }
            return;
        }
        GraftQuarrel y = new GraftQuarrel();
        if (Checks.tell(y, String.join(";", lines)) < 1) {
            return;
        }
        if (below(2) == 0) {
            y.graft(below(quarrels), below(quarrels));
        }
        List<String> fell = new ArrayList<>();
        for (int n = 0; n < 24; n++) {
            for (int q = 0; q < quarrels; q++) {
                if (y.fruits(q, n + 1) > y.fruits(q, n)) {
                    fell.add("fell " + (char) ('p' + q) + " season " + n);
                }
            }
        }
        lines.addAll(fell.subList(0, Math.min(6, fell.size())));
    }

    private String spoilt(String text) {
        int at = below(text.length());
        switch (below(6)) {
            case 0:
                return text.substring(0, at);
            case 1:
                return text.substring(0, at) + " ;aq09\u00ff\u0000V".charAt(below(9)) + text.substring(at + 1);
            case 2:
                return text.substring(0, at) + text.substring(at + 1);
            case 3: case 4:
                String[] tokens = text.replace(";", " ; ").split(" +");
                tokens[below(tokens.length)] = tokens[below(tokens.length)];
                return String.join(" ", tokens);
            default:
                String[] lines = text.split(";");
                return text + ";" + lines[below(lines.length)];
        }
    }
}
