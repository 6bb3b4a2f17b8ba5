import java.math.BigInteger;
import java.util.ArrayDeque;
import java.util.ArrayList;
import java.util.Arrays;
import java.util.HashMap;
import java.util.HashSet;
import java.util.List;
import java.util.Map;
import java.util.NoSuchElementException;
import java.util.Set;
import java.util.regex.Matcher;
import java.util.regex.Pattern;

/**
 * The document once more, as slow and plain as can be, built otherwise than the class: lines by
 * patterns, grafts by chains, cuts and rows of grafts by trying all. ModelTest compares the two.
 */
final class Model {
    private static final String[] KINDS = {"land", "word", "love", "debt"};
    private static final List<String> FIRST = List.of("valley", "family", "quarrel", "law", "deed", "pot", "fell");
    private static final Map<String, String> PATTERNS = Map.of(
            "valley", "winter #0-9 bears #4-30 coins #1-9 #1-9 #1-9 #1-9",
            "family", "+name people #1-99",
            "quarrel", "+name @kind of @family @family vigour #0-30",
            "law", "@kind on @kind odds #1-100",
            "deed", "@quarrel season #0-23 feeds #1-9",
            "pot", "@quarrel",
            "fell", "@quarrel season #0-23");
    private static final Map<String, Integer> ROOM = Map.of("valley", 9, "family", 6, "quarrel", 6, "law", 10,
            "deed", 12, "pot", 99, "fell", 6);

    /** A text as told. */
    private static final class Told {
        final Map<String, List<List<Object>>> lines = new HashMap<>();
        final Map<String, String> sorts = new HashMap<>();
        final Map<String, Integer> numbers = new HashMap<>();

        Told() {
            for (String word : FIRST) {
                lines.put(word, new ArrayList<>());
            }
        }

        int at(String word, int line, int part) {
            Object told = lines.get(word).get(line).get(part);
            return told instanceof Integer i ? i : numbers.get((String) told);
        }

        int count(String word) {
            return lines.get(word).size();
        }
    }

    private static final class Fault extends RuntimeException {
        private static final long serialVersionUID = 1;
        final int number;
        final int place;

        Fault(int number, int place) {
            this.number = number;
            this.place = place;
        }
    }

    private record Token(String text, int place) {
        boolean isWord() {
            return text.matches("[a-z]{1,8}");
        }

        boolean isWhole() {
            return text.matches("[0-9]{1,3}");
        }
    }

    private static final class State {
        int season;
        int paid;
        int[] vigour;
        int[] on;
        int[] fruits;
        int[] suckers;

        State copy() {
            State s = new State();
            s.season = season;
            s.paid = paid;
            s.vigour = vigour.clone();
            s.on = on.clone();
            s.fruits = fruits.clone();
            s.suckers = suckers.clone();
            return s;
        }

        int root(int q) {
            return on[q] < 0 ? q : root(on[q]);
        }

        boolean stands(int q) {
            return on[q] < 0;
        }
    }

    private String tape = "";
    private Told told = null;
    private State now = null;
    private ArrayDeque<State> acts = new ArrayDeque<>();
    private List<State> images = new ArrayList<>();
    private int fault = 0;
    private int where = -1;
    private int trouble = 0;

    // ---- the text

    private static List<Token> tokens(String text) {
        List<Token> all = new ArrayList<>();
        Matcher m = Pattern.compile("[a-z]+|[0-9]+|[^ ]", Pattern.DOTALL).matcher(text);
        while (m.find()) {
            all.add(new Token(m.group(), m.start()));
        }
        all.add(new Token("", text.length()));
        return all;
    }

    private static Told parse(String text) {
        Told t = new Told();
        List<Token> all = tokens(text);
        int at = 0;
        while (true) {
            Token first = all.get(at++);
            String word = first.text;
            require(FIRST.contains(word), 1, first);
            require(!(word.equals("valley") && t.count("valley") > 0), 3, first);
            require(t.count(word) < ROOM.get(word), 5, first);
            require(word.equals("valley") || t.count("valley") > 0, 6, first);
            List<Object> parts = new ArrayList<>();
            for (String due : PATTERNS.get(word).split(" ")) {
                part(t, word, parts, due, all.get(at++));
            }
            t.lines.get(word).add(parts);
            if (parts.get(0) instanceof String s && !t.sorts.containsKey(s)) {
                t.sorts.put(s, word);
                t.numbers.put(s, t.count(word) - 1);
            }
            Token behind = all.get(at++);
            if (behind.text.isEmpty()) {
                require(t.count("family") > 0 && t.count("quarrel") > 0, 6, behind);
                return t;
            }
            require(behind.text.equals(";"), 1, behind);
        }
    }

    private static void require(boolean so, int number, Token at) {
        if (!so) {
            throw new Fault(number, at.place);
        }
    }

    private static void part(Told t, String word, List<Object> parts, String due, Token token) {
        if (due.startsWith("#")) {
            require(token.isWhole(), 1, token);
            int value = Integer.parseInt(token.text);
            if (word.equals("fell")) {
                require(!t.lines.get("fell").contains(List.of(parts.get(0), value)), 3, token);
            }
            String[] ends = due.substring(1).split("-");
            require(value >= Integer.parseInt(ends[0]) && value <= Integer.parseInt(ends[1]), 4, token);
            parts.add(value);
        } else if (due.equals("@kind")) {
            int kind = Arrays.asList(KINDS).indexOf(token.text);
            require(kind >= 0, 1, token);
            if (word.equals("law") && parts.size() == 1) {
                for (List<Object> law : t.lines.get("law")) {
                    require(!law.subList(0, 2).equals(List.of(parts.get(0), kind)), 3, token);
                }
            }
            parts.add(kind);
        } else if (due.startsWith("@") || due.startsWith("+")) {
            require(token.isWord() && !FIRST.contains(token.text), 1, token);
            if (due.startsWith("+")) {
                require(!t.sorts.containsKey(token.text), 3, token);
            } else {
                require(due.substring(1).equals(t.sorts.get(token.text)), 2, token);
            }
            if (word.equals("quarrel") && parts.size() == 3) {
                require(!parts.get(2).equals(token.text), 3, token);
            }
            if (word.equals("pot")) {
                require(!t.lines.get("pot").contains(List.<Object>of(token.text)), 3, token);
            }
            parts.add(token.text);
        } else {
            require(token.text.equals(due), 1, token);
        }
    }

    // ---- told

    private int winter() {
        return told.at("valley", 0, 0);
    }

    private int bears() {
        return told.at("valley", 0, 1);
    }

    private int coins(int season) {
        return told.at("valley", 0, 2 + season % 4);
    }

    private int families() {
        return told.count("family");
    }

    private int quarrels() {
        return told.count("quarrel");
    }

    private int kind(int q) {
        return told.at("quarrel", q, 1);
    }

    private boolean potted(int q) {
        for (int i = 0; i < told.count("pot"); i++) {
            if (told.at("pot", i, 0) == q) {
                return true;
            }
        }
        return false;
    }

    private State start() {
        State s = new State();
        int n = quarrels();
        s.vigour = new int[n];
        s.on = new int[n];
        s.fruits = new int[n];
        s.suckers = new int[n];
        for (int q = 0; q < n; q++) {
            s.vigour[q] = told.at("quarrel", q, 4);
            s.on[q] = -1;
        }
        return s;
    }

    // ---- rules

    private Set<Integer> partySet(State s, int q) {
        Set<Integer> all = new HashSet<>();
        for (int p = 0; p < quarrels(); p++) {
            if (s.root(p) == q) {
                all.add(told.at("quarrel", p, 2));
                all.add(told.at("quarrel", p, 3));
            }
        }
        return all;
    }

    private Set<Integer> kindSet(State s, int q) {
        Set<Integer> all = new HashSet<>();
        for (int p = 0; p < quarrels(); p++) {
            if (s.root(p) == q) {
                all.add(kind(p));
            }
        }
        return all;
    }

    private static int bits(Set<Integer> all) {
        int bits = 0;
        for (int i : all) {
            bits |= 1 << i;
        }
        return bits;
    }

    private int oddsIn(State s, int scion, int stock) {
        if (scion == stock || !s.stands(scion) || !s.stands(stock) || potted(scion) || potted(stock)) {
            return 0;
        }
        Set<Integer> both = new HashSet<>(partySet(s, scion));
        both.retainAll(partySet(s, stock));
        if (!both.isEmpty()) {
            return 0;
        }
        int best = 0;
        for (int i = 0; i < told.count("law"); i++) {
            if (kindSet(s, scion).contains(told.at("law", i, 0)) && kindSet(s, stock).contains(told.at("law", i, 1))) {
                best = Math.max(best, told.at("law", i, 2));
            }
        }
        return best;
    }

    private static State joined(State s, int scion, int stock) {
        State t = s.copy();
        t.vigour[stock] += t.vigour[scion] / 2;
        t.on[scion] = stock;
        return t;
    }

    private int deedsIn(State s, int q, int season) {
        int sum = 0;
        for (int i = 0; i < told.count("deed"); i++) {
            if (s.root(told.at("deed", i, 0)) == q && told.at("deed", i, 1) == season) {
                sum += told.at("deed", i, 2);
            }
        }
        return sum;
    }

    /** One season of one quarrel; true if a fruit falls. */
    private boolean pass(State s, int q, int fed, boolean winter) {
        s.vigour[q] += fed;
        if (winter && !potted(q)) {
            s.vigour[q] = Math.max(0, s.vigour[q] - winter());
        }
        if (s.vigour[q] < bears()) {
            return false;
        }
        s.vigour[q] -= bears();
        s.fruits[q]++;
        return true;
    }

    private Set<Integer> pass(State s, int drawn, int much) {
        Set<Integer> fell = new HashSet<>();
        for (int q = 0; q < quarrels(); q++) {
            if (s.stands(q)) {
                int fed = drawn < 0 ? deedsIn(s, q, s.season) : s.root(drawn) == q ? much : 0;
                if (pass(s, q, fed, s.season % 4 == 3)) {
                    fell.add(q);
                }
                if ((s.season + 1) % 12 == 0 && !potted(q) && s.vigour[q] >= 3) {
                    s.suckers[q]++;
                }
            }
        }
        s.season++;
        return fell;
    }

    private State behind(State from, int n) {
        State s = from.copy();
        for (int i = 0; i < n; i++) {
            pass(s, -1, 0);
        }
        return s;
    }

    private int fallen(State from, int n) {
        return Arrays.stream(behind(from, n).fruits).sum() - Arrays.stream(from.fruits).sum();
    }

    private Set<Integer> atPeace(State s) {
        Set<Integer> all = new HashSet<>();
        for (int f = 0; f < families(); f++) {
            all.add(f);
        }
        for (int q = 0; q < quarrels(); q++) {
            if (s.stands(q) && s.vigour[q] > 0) {
                all.removeAll(partySet(s, q));
            }
        }
        return all;
    }

    // ---- rows of grafts, all of them

    private record Row(List<Integer> grafts, List<Integer> odds) {
        BigInteger product() {
            BigInteger p = BigInteger.ONE;
            for (int o : odds) {
                p = p.multiply(BigInteger.valueOf(o));
            }
            return p;
        }
    }

    private void allRows(State s, Row row, List<Row> into) {
        into.add(row);
        for (int scion = 0; scion < quarrels(); scion++) {
            for (int stock = 0; stock < quarrels(); stock++) {
                int odds = oddsIn(s, scion, stock);
                if (odds > 0) {
                    List<Integer> grafts = new ArrayList<>(row.grafts);
                    List<Integer> all = new ArrayList<>(row.odds);
                    grafts.add(10 * scion + stock);
                    all.add(odds);
                    allRows(joined(s, scion, stock), new Row(grafts, all), into);
                }
            }
        }
    }

    private static boolean ahead(List<Integer> a, List<Integer> b) {
        for (int i = 0; i < a.size(); i++) {
            if (!a.get(i).equals(b.get(i))) {
                return a.get(i) < b.get(i);
            }
        }
        return false;
    }

    private Row surestRow = null;
    private String surestFor = "";

    private Row surestRow() {
        String key = told.lines + Arrays.toString(now.on);
        if (key.equals(surestFor)) {
            return surestRow;
        }
        List<Row> all = new ArrayList<>();
        allRows(now, new Row(List.of(), List.of()), all);
        Row best = all.get(0);
        for (Row row : all) {
            int longer = row.grafts.size() - best.grafts.size();
            int likelier = row.product().compareTo(best.product());
            if (longer > 0 || longer == 0 && (likelier > 0 || likelier == 0 && ahead(row.grafts, best.grafts))) {
                best = row;
            }
        }
        surestFor = key;
        surestRow = best;
        return best;
    }

    private static long part(BigInteger upper, BigInteger under, boolean lower) {
        BigInteger g = upper.gcd(under);
        return (lower ? under : upper).divide(g).longValueExact();
    }

    // ---- cuts, all of them

    /** The best cuts from a season on, the coins behind them as the last; null if it can't be. */
    private List<Integer> bestCuts(int q, int vigour, int i, int n, Map<List<Integer>, List<Integer>> known) {
        if (i == n) {
            return List.of(0);
        }
        List<Integer> key = List.of(vigour, i);
        if (known.containsKey(key)) {
            return known.get(key);
        }
        List<Integer> best = null;
        int season = now.season + i;
        for (int c = vigour; c >= 0; c--) {
            State s = now.copy();
            s.vigour[q] = vigour - c;
            if (!pass(s, q, deedsIn(s, q, season), season % 4 == 3)) {
                List<Integer> rest = bestCuts(q, s.vigour[q], i + 1, n, known);
                if (rest != null) {
                    List<Integer> all = new ArrayList<>(rest);
                    all.add(0, c);
                    all.set(all.size() - 1, rest.get(rest.size() - 1) + c * coins(season));
                    if (best == null || all.get(all.size() - 1) < best.get(best.size() - 1)) {
                        best = all;
                    }
                }
            }
        }
        known.put(key, best);
        return best;
    }

    private int fedFor(int q, int ahead, int cut, boolean each) {
        for (int much = 0; much <= 60; much++) {
            State s = now.copy();
            boolean falls = false;
            for (int i = 0; i <= ahead; i++) {
                s.vigour[q] -= Math.min(cut, s.vigour[q]);
                int season = now.season + i;
                falls = pass(s, q, deedsIn(s, q, season) + (each || i == 0 ? much : 0), season % 4 == 3);
            }
            if (falls) {
                return much;
            }
        }
        return -2;
    }

    private int shareOf(int q, int f, int deeds) {
        List<Integer> all = new ArrayList<>(partySet(now, q));
        all.sort(null);
        int people = 0;
        for (int g : all) {
            people += told.at("family", g, 1);
        }
        Map<Integer, Integer> shares = new HashMap<>();
        int given = 0;
        for (int g : all) {
            shares.put(g, deeds * told.at("family", g, 1) / people);
            given += shares.get(g);
        }
        List<Integer> order = new ArrayList<>(all);
        int sum = people;
        order.sort((a, b) -> Integer.compare(deeds * told.at("family", b, 1) % sum,
                deeds * told.at("family", a, 1) % sum));
        for (int i = 0; given < deeds; i++) {
            shares.merge(order.get(i), 1, Integer::sum);
            given++;
        }
        return shares.getOrDefault(f, 0);
    }

    private int has(int q, int fed, int cut, boolean guard) {
        int vigour = Math.max(0, now.vigour[q] + fed - cut);
        int fruit = vigour >= bears() ? 9 : 0;
        return guard ? -fruit - cut : fruit - fed;
    }

    private List<Integer> restList(int q) {
        List<Integer> all = new ArrayList<>();
        for (int fed = 0; fed <= 4; fed++) {
            for (int cut = 0; cut <= 4; cut++) {
                boolean rest = true;
                for (int o = 0; o <= 4; o++) {
                    rest &= has(q, o, cut, false) <= has(q, fed, cut, false);
                    rest &= has(q, fed, o, true) <= has(q, fed, cut, true);
                }
                if (rest) {
                    all.add(10 * fed + cut);
                }
            }
        }
        return all;
    }

    private boolean explains(State s) {
        Map<Integer, Set<Integer>> due = new HashMap<>();
        for (int i = 0; i < told.count("fell"); i++) {
            due.computeIfAbsent(told.at("fell", i, 1), k -> new HashSet<>()).add(s.root(told.at("fell", i, 0)));
        }
        State t = s.copy();
        for (int season = 0; season < 24; season++) {
            if (!pass(t, -1, 0).equals(due.getOrDefault(season, Set.of()))) {
                return false;
            }
        }
        return true;
    }

    private List<Integer> wayList() {
        List<Integer> all = new ArrayList<>();
        if (explains(start())) {
            all.add(-2);
        }
        for (int scion = 0; scion < quarrels(); scion++) {
            for (int stock = 0; stock < quarrels(); stock++) {
                if (oddsIn(start(), scion, stock) > 0 && explains(joined(start(), scion, stock))) {
                    all.add(10 * scion + stock);
                }
            }
        }
        return all;
    }

    // ---- calls by name

    private long refuse(int number, int answer) {
        trouble = number;
        return answer;
    }

    private boolean isQ(int q) {
        return told != null && q >= 0 && q < quarrels();
    }

    private boolean isF(int f) {
        return told != null && f >= 0 && f < families();
    }

    private boolean isStanding(int q) {
        return isQ(q) && now.stands(q);
    }

    private void act() {
        acts.addLast(now.copy());
        if (acts.size() > 16) {
            acts.removeFirst();
        }
    }

    /** The answer of a call; booleans count 1 or 0, flags come as 1 or 0. */
    long call(String name, int... a) {
        switch (name) {
            case "feed":
                return feed(a);
            case "fault":
                return fault;
            case "where":
                return trouble == 4 ? where : -1;
            case "led":
                return led(a[0]);
            case "size":
                return size(a[0]);
            case "trouble":
                return trouble;
            default:
                trouble = 0;
                return refusable(name, a);
        }
    }

    private long feed(int[] a) {
        if (tape.length() + 20 > 900) {
            return -1;
        }
        StringBuilder more = new StringBuilder(tape);
        for (int number : a) {
            for (int i = 3; i >= 0; i--) {
                more.append((char) (number >>> 8 * i & 255));
            }
        }
        tape = more.toString();
        return tape.length();
    }

    private long led(int i) {
        List<Integer> all = new ArrayList<>();
        for (int q = 0; told != null && q < quarrels(); q++) {
            if (now.stands(q) && now.vigour[q] == 0) {
                all.add(q);
            }
        }
        if (i < 0 || i >= all.size()) {
            throw new NoSuchElementException();
        }
        return all.get(i);
    }

    private long size(int what) {
        if (what < 0 || what > 12) {
            return -1;
        }
        if (what == 12) {
            return tape.length();
        }
        if (told == null) {
            return 0;
        }
        int[] all = {winter(), bears(), families(), quarrels(), told.count("law"), told.count("deed"),
            told.count("fell"), told.count("pot"), now.season, now.paid, acts.size(), images.size()};
        return all[what];
    }

    private long refusable(String name, int[] a) {
        switch (name) {
            case "valley":
                return valley(a[0]);
            case "quarrel": case "parties": case "bound": case "peace": case "stand": case "feud":
                return callNow(name, a);
            case "vigour": case "fruits": case "first": case "fallen": case "suckers": case "quiet":
            case "peaceBy": case "worst": case "spared":
                return callSeasons(name, a);
            case "odds": case "grafted": case "bestGraft": case "left": case "surest": case "takes": case "surestAt":
                return callGrafts(name, a);
            case "prune": case "pruneAt": case "feedFor": case "feedAgainst":
                return callPrune(name, a);
            case "share": case "game": case "rests": case "rest":
                return callGame(name, a);
            case "ways": case "wayAt": case "judge": case "year": case "years":
                return callExplained(name, a);
            default:
                return callAct(name, a);
        }
    }

    private long valley(int n) {
        if (n < 0 || n > tape.length()) {
            return refuse(2, -1);
        }
        String text = tape.substring(0, n);
        tape = "";
        fault = 0;
        try {
            told = parse(text);
        } catch (Fault f) {
            fault = f.number;
            where = f.place;
            return refuse(4, -1);
        }
        now = start();
        acts = new ArrayDeque<>();
        images = new ArrayList<>();
        return quarrels();
    }

    private long callNow(String name, int[] a) {
        if (told == null) {
            return refuse(1, -1);
        }
        switch (name) {
            case "quarrel":
                if (!isQ(a[0]) || a[1] < 0 || a[1] > 6) {
                    return refuse(1, -1);
                }
                int q = a[0];
                boolean s = now.stands(q);
                int[] all = {kind(q), s ? now.vigour[q] : 0, s ? -2 : now.root(q), s ? bits(kindSet(now, q)) : 0,
                    potted(q) ? 1 : 0, now.fruits[q], now.suckers[q]};
                return all[a[1]];
            case "parties":
                return isQ(a[0]) ? bits(partySet(now, a[0])) : refuse(1, -1);
            case "bound":
                if (!isF(a[0])) {
                    return refuse(1, -1);
                }
                Set<Integer> in = new HashSet<>();
                for (int p = 0; p < quarrels(); p++) {
                    if (partySet(now, p).contains(a[0])) {
                        in.add(p);
                    }
                }
                return bits(in);
            case "peace":
                return bits(atPeace(now));
            case "stand":
                return Arrays.stream(now.on).filter(o -> o < 0).count();
            default:
                return isF(a[0]) ? bits(reached(a[0], new HashSet<>())) : refuse(1, -1);
        }
    }

    private Set<Integer> reached(int f, Set<Integer> so) {
        if (so.add(f)) {
            for (int q = 0; q < quarrels(); q++) {
                Set<Integer> p = partySet(now, q);
                if (p.contains(f)) {
                    for (int g : p) {
                        reached(g, so);
                    }
                }
            }
        }
        return so;
    }

    private long callSeasons(String name, int[] a) {
        boolean ofOne = List.of("vigour", "fruits", "first", "spared").contains(name);
        int none = name.equals("spared") ? -100 : -1;
        if (told == null || ofOne && !isQ(a[0]) || name.equals("spared") && !now.stands(a[0])) {
            return refuse(1, none);
        }
        int n = a.length == 0 || name.equals("first") ? 0 : a[a.length - 1];
        if (n < 0 || n > 24) {
            return refuse(2, none);
        }
        State s = behind(now, n);
        switch (name) {
            case "vigour":
                return s.stands(a[0]) ? s.vigour[a[0]] : 0;
            case "fruits":
                return s.fruits[a[0]] - now.fruits[a[0]];
            case "first":
                for (int i = 1; i <= 24; i++) {
                    if (behind(now, i).fruits[a[0]] > now.fruits[a[0]]) {
                        return i;
                    }
                }
                return -2;
            case "fallen":
                return fallen(now, n);
            case "suckers":
                return Arrays.stream(s.suckers).sum() - Arrays.stream(now.suckers).sum();
            case "quiet":
                int count = 0;
                for (int i = 1; i <= n; i++) {
                    count += atPeace(behind(now, i)).size() == families() ? 1 : 0;
                }
                return count;
            case "peaceBy":
                for (int i = 0; i <= 24; i++) {
                    if (atPeace(behind(now, i)).size() == families()) {
                        return i;
                    }
                }
                return -2;
            case "worst":
                int most = -2;
                for (int q = 0; q < quarrels(); q++) {
                    int fell = s.fruits[q] - now.fruits[q];
                    if (fell > (most < 0 ? 0 : s.fruits[most] - now.fruits[most])) {
                        most = q;
                    }
                }
                return most;
            default:
                State without = now.copy();
                without.vigour[a[0]] = 0;
                return fallen(now, n) - fallen(without, n);
        }
    }

    private long callGrafts(String name, int[] a) {
        if (told == null) {
            return refuse(1, -1);
        }
        boolean ofTwo = name.equals("odds") || name.equals("grafted");
        if (ofTwo && (!isQ(a[0]) || !isQ(a[1]))) {
            return refuse(1, -1);
        }
        switch (name) {
            case "odds":
                return oddsIn(now, a[0], a[1]);
            case "grafted":
                if (a[2] < 0 || a[2] > 24) {
                    return refuse(2, -1);
                }
                return oddsIn(now, a[0], a[1]) == 0 ? refuse(5, -1) : fallen(joined(now, a[0], a[1]), a[2]);
            case "bestGraft":
                return a[0] < 0 || a[0] > 24 ? refuse(2, -1) : best(a[0]);
            case "left":
                return Arrays.stream(now.on).filter(o -> o < 0).count() - surestRow().grafts.size();
            case "surest":
                return part(surestRow().product(), BigInteger.valueOf(100).pow(surestRow().odds.size()), a[0] == 1);
            case "takes":
                int sum = surestRow().odds.stream().mapToInt(o -> o).sum();
                return part(BigInteger.valueOf(sum), BigInteger.valueOf(100), a[0] == 1);
            default:
                return a[0] < 0 || a[0] >= surestRow().grafts.size() ? refuse(1, -1) : surestRow().grafts.get(a[0]);
        }
    }

    private int best(int n) {
        int best = -2;
        int fewest = fallen(now, n);
        for (int code = 0; code < 100; code++) {
            int scion = code / 10;
            int stock = code % 10;
            if (isQ(scion) && isQ(stock) && oddsIn(now, scion, stock) > 0) {
                int fall = fallen(joined(now, scion, stock), n);
                if (fall < fewest) {
                    fewest = fall;
                    best = code;
                }
            }
        }
        return best;
    }

    private long callPrune(String name, int[] a) {
        if (!isStanding(a[0])) {
            return refuse(1, -1);
        }
        boolean pruned = name.startsWith("prune");
        if (a[1] < 0 || a[1] > (pruned ? 12 : 23)) {
            return refuse(2, -1);
        }
        if (name.equals("feedFor")) {
            return fedFor(a[0], a[1], 0, false);
        }
        if (name.equals("feedAgainst")) {
            return a[2] < 0 || a[2] > 9 ? refuse(2, -1) : fedFor(a[0], a[1], a[2], true);
        }
        List<Integer> cuts = bestCuts(a[0], now.vigour[a[0]], 0, a[1], new HashMap<>());
        if (name.equals("prune")) {
            return cuts == null ? -2 : cuts.get(a[1]);
        }
        if (a[2] < 0 || a[2] >= a[1]) {
            return refuse(1, -1);
        }
        return cuts == null ? refuse(6, -1) : cuts.get(a[2]);
    }

    private long callGame(String name, int[] a) {
        int none = name.equals("game") ? -100 : -1;
        if (!isStanding(a[0]) || name.equals("share") && !isF(a[1])) {
            return refuse(1, none);
        }
        switch (name) {
            case "share":
                return a[2] < 0 || a[2] > 999 ? refuse(2, -1) : shareOf(a[0], a[1], a[2]);
            case "game":
                boolean good = a[1] >= 0 && a[1] <= 4 && a[2] >= 0 && a[2] <= 4;
                return good ? has(a[0], a[1], a[2], a[3] == 1) : refuse(2, -100);
            case "rests":
                return restList(a[0]).size();
            default:
                return restList(a[0]).isEmpty() ? -2 : restList(a[0]).get(0);
        }
    }

    private long callExplained(String name, int[] a) {
        if (told == null) {
            return refuse(1, -1);
        }
        switch (name) {
            case "ways":
                return wayList().size();
            case "wayAt":
                List<Integer> all = wayList();
                return a[0] < 0 || a[0] >= all.size() ? refuse(1, -1) : all.get(a[0]);
            case "judge":
                for (int i = 0; i < told.count("fell"); i++) {
                    int q = told.at("fell", i, 0);
                    int season = told.at("fell", i, 1);
                    if (behind(start(), season).fruits[q] == behind(start(), season + 1).fruits[q]) {
                        return i;
                    }
                }
                return -2;
            default:
                int n = name.equals("year") ? 1 : a[1];
                return a[0] < 0 || a[0] > 65536 || n < 0 || n > 20 ? refuse(2, -1) : byDraws(a[0], n);
        }
    }

    private int byDraws(int seed, int n) {
        State s = now.copy();
        long[] last = {seed};
        int fell = 0;
        for (int i = 0; i < 4 * n; i++) {
            int who = (int) (draw(last) % quarrels());
            int much = (int) (draw(last) % 6);
            fell += pass(s, who, much).size();
        }
        return fell;
    }

    private static long draw(long[] last) {
        last[0] = (75 * last[0] + 74) % 65537;
        return last[0];
    }

    private long callAct(String name, int[] a) {
        if (told == null && !name.equals("undo")) {
            return refuse(1, name.equals("back") ? 0 : -1);
        }
        switch (name) {
            case "undo":
                if (acts.isEmpty()) {
                    return refuse(6, 0);
                }
                now = acts.removeLast();
                return 1;
            case "image":
                if (images.size() == 3) {
                    return refuse(3, -1);
                }
                images.add(now.copy());
                return images.size() - 1;
            case "back":
                if (a[0] < 0 || a[0] >= images.size()) {
                    return refuse(1, 0);
                }
                now = images.get(a[0]).copy();
                acts.clear();
                return 1;
            case "season":
                if (now.season >= 200) {
                    return refuse(3, -1);
                }
                act();
                return pass(now, -1, 0).size();
            case "graft":
                if (!isQ(a[0]) || !isQ(a[1])) {
                    return refuse(1, -1);
                }
                if (oddsIn(now, a[0], a[1]) == 0) {
                    return refuse(5, -1);
                }
                act();
                now = joined(now, a[0], a[1]);
                return now.vigour[a[1]];
            case "nourish":
                if (!isQ(a[0]) || a[1] < 1 || a[1] > 9 || !now.stands(a[0])) {
                    return refuse(!isQ(a[0]) ? 1 : a[1] < 1 || a[1] > 9 ? 2 : 5, -1);
                }
                act();
                return now.vigour[a[0]] += a[1];
            default:
                if (!isStanding(a[0])) {
                    return refuse(isQ(a[0]) ? 5 : 1, -1);
                }
                if (a[1] < 1 || a[1] > 30 || a[1] > now.vigour[a[0]]) {
                    return refuse(2, -1);
                }
                act();
                now.vigour[a[0]] -= a[1];
                return now.paid += a[1] * coins(now.season);
        }
    }
}
