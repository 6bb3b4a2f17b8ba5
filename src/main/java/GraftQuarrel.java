import java.util.NoSuchElementException;

/**
 * Grafted quarrels, as ../shared/DOC.md tells them by numbered promises.
 *
 * <p>All rows are made with the object and used again: no call makes an object of its own,
 * but for the exception of led().
 */
public final class GraftQuarrel {
    /** There is none; refused. */
    public static final int NONE = -1;

    // What a call answers that isn't refused, but finds nothing.
    private static final int NO_ONE = -2;
    // What stands for NONE where answers may be below 0.
    private static final int FAR_BELOW = -100;

    // TROUBLE.
    private static final int NO_SUCH = 1;
    private static final int NUMBER = 2;
    private static final int NO_ROOM = 3;
    private static final int FAULTY = 4;
    private static final int NOT_SO = 5;
    private static final int THERE_IS_NONE = 6;

    // FAULTS.
    private static final int FORM = 1;
    private static final int UNTOLD = 2;
    private static final int AGAIN = 3;
    private static final int BOUNDS = 4;
    private static final int MANY = 5;
    private static final int LACKS = 6;

    // How much there is room for.
    private static final int TAPE_BYTES = 900;
    private static final int FED_BYTES = 20;
    private static final int MOST = 6;
    private static final int KIND_COUNT = 4;
    private static final int MOST_LAWS = 10;
    private static final int MOST_DEEDS = 12;
    private static final int MOST_FELL = 6;
    private static final int MOST_ACTS = 16;
    private static final int MOST_IMAGES = 3;
    private static final int MOST_SEASONS = 200;

    private static final int TOLD_SEASONS = 24;
    private static final int ROUND = 4;
    private static final int WINTER = 3;
    private static final int SUCKER_SEASONS = 12;
    private static final int SUCKER_VIGOUR = 3;

    private static final int MOST_PRUNED = 12;
    private static final int MOST_FED = 60;
    private static final int MOST_AGAINST = 9;
    private static final int MOST_SHARED = 999;
    private static final int MOST_PLAYED = 4;
    private static final int FRUIT_WORTH = 9;
    private static final int MOST_SEED = 65536;
    private static final int MOST_YEARS = 20;
    private static final int MOST_NOURISHED = 9;
    private static final int MOST_CUT = 30;

    private final byte[] tape = new byte[TAPE_BYTES];
    private int tapeLength = 0;
    private final Reader reader = new Reader();
    private Valley told = new Valley();
    // A text is read into this one, so that a faulty text leaves the other as it is.
    private Valley spare = new Valley();
    private boolean hasValley = false;

    private final Garden now = new Garden();
    private final Garden trial = new Garden();
    private final Garden[] acts = new Garden[MOST_ACTS];
    private int actCount = 0;
    private final Garden[] kept = new Garden[MOST_IMAGES];
    private int imageCount = 0;

    private final Course course = new Course();
    private final GraftPlan plan = new GraftPlan();
    private boolean planned = false;
    private final Explanation explanation = new Explanation();
    private int troubleNumber = 0;

    /** No VALLEY. */
    public GraftQuarrel() {
        for (int i = 0; i < MOST_ACTS; i++) {
            acts[i] = new Garden();
        }
        for (int i = 0; i < MOST_IMAGES; i++) {
            kept[i] = new Garden();
        }
    }

    // ---- the valley

    public int feed(int a, int b, int c, int d, int e) {
        if (tapeLength + FED_BYTES > TAPE_BYTES) {
            return NONE;
        }
        putFourBytes(a);
        putFourBytes(b);
        putFourBytes(c);
        putFourBytes(d);
        putFourBytes(e);
        return tapeLength;
    }

    public int valley(int n) {
        if (n < 0 || n > tapeLength) {
            return refuse(NUMBER);
        }
        tapeLength = 0;
        if (!reader.readValley(tape, n, spare)) {
            return refuse(FAULTY);
        }
        Valley before = told;
        told = spare;
        spare = before;
        hasValley = true;
        now.plant(told);
        actCount = 0;
        imageCount = 0;
        planned = false;
        return answer(told.quarrels);
    }

    public int fault() {
        return reader.fault;
    }

    public int where() {
        return troubleNumber == FAULTY ? reader.faultPlace : NONE;
    }

    // ---- now

    public int quarrel(int q, int what) {
        if (!isQuarrel(q) || what < 0 || what > 6) {
            return refuse(NO_SUCH);
        }
        return answer(factOf(q, what));
    }

    public int parties(int q) {
        if (!isQuarrel(q)) {
            return refuse(NO_SUCH);
        }
        return answer(now.partiesOf(told, q));
    }

    public int bound(int f) {
        if (!isFamily(f)) {
            return refuse(NO_SUCH);
        }
        int bits = 0;
        for (int q = 0; q < told.quarrels; q++) {
            if (has(now.partiesOf(told, q), f)) {
                bits |= 1 << q;
            }
        }
        return answer(bits);
    }

    public int peace() {
        if (!hasValley) {
            return refuse(NO_SUCH);
        }
        return answer(now.familiesAtPeace(told));
    }

    public int stand() {
        if (!hasValley) {
            return refuse(NO_SUCH);
        }
        return answer(now.standing(told));
    }

    public int feud(int f) {
        if (!isFamily(f)) {
            return refuse(NO_SUCH);
        }
        int hanging = 1 << f;
        // Each round takes in one family at least, or changes nothing any more.
        for (int round = 0; round < MOST; round++) {
            for (int q = 0; q < told.quarrels; q++) {
                int parties = now.partiesOf(told, q);
                if ((parties & hanging) != 0) {
                    hanging |= parties;
                }
            }
        }
        return answer(hanging);
    }

    // ---- behind so many seasons (0 .. 24)

    public int vigour(int q, int n) {
        if (!isQuarrel(q)) {
            return refuse(NO_SUCH);
        }
        if (!isSpan(n)) {
            return refuse(NUMBER);
        }
        tryFromNow(n);
        return answer(trial.vigourOf(q));
    }

    public int fruits(int q, int n) {
        if (!isQuarrel(q)) {
            return refuse(NO_SUCH);
        }
        if (!isSpan(n)) {
            return refuse(NUMBER);
        }
        tryFromNow(n);
        return answer(trial.fruits[q] - now.fruits[q]);
    }

    public int first(int q) {
        if (!isQuarrel(q)) {
            return refuse(NO_SUCH);
        }
        trial.become(now);
        for (int n = 1; n <= TOLD_SEASONS; n++) {
            if (has(trial.passByDeeds(told), q)) {
                return answer(n);
            }
        }
        return answer(NO_ONE);
    }

    public int fallen(int n) {
        if (!hasValley) {
            return refuse(NO_SUCH);
        }
        if (!isSpan(n)) {
            return refuse(NUMBER);
        }
        return answer(fallenFromNow(n));
    }

    public int suckers(int n) {
        if (!hasValley) {
            return refuse(NO_SUCH);
        }
        if (!isSpan(n)) {
            return refuse(NUMBER);
        }
        tryFromNow(n);
        return answer(trial.suckersOfAll() - now.suckersOfAll());
    }

    public int quiet(int n) {
        if (!hasValley) {
            return refuse(NO_SUCH);
        }
        if (!isSpan(n)) {
            return refuse(NUMBER);
        }
        int count = 0;
        trial.become(now);
        for (int i = 0; i < n; i++) {
            trial.passByDeeds(told);
            if (trial.isAllPeace(told)) {
                count++;
            }
        }
        return answer(count);
    }

    public int peaceBy() {
        if (!hasValley) {
            return refuse(NO_SUCH);
        }
        trial.become(now);
        for (int n = 0; n <= TOLD_SEASONS; n++) {
            if (trial.isAllPeace(told)) {
                return answer(n);
            }
            trial.passByDeeds(told);
        }
        return answer(NO_ONE);
    }

    public int worst(int n) {
        if (!hasValley) {
            return refuse(NO_SUCH);
        }
        if (!isSpan(n)) {
            return refuse(NUMBER);
        }
        tryFromNow(n);
        int most = 0;
        int which = NO_ONE;
        for (int q = 0; q < told.quarrels; q++) {
            int fell = trial.fruits[q] - now.fruits[q];
            if (fell > most) {
                most = fell;
                which = q;
            }
        }
        return answer(which);
    }

    public int spared(int q, int n) {
        if (!isStanding(q)) {
            return refuseFarBelow(NO_SUCH);
        }
        if (!isSpan(n)) {
            return refuseFarBelow(NUMBER);
        }
        int asItIs = fallenFromNow(n);
        trial.become(now);
        trial.vigour[q] = 0;
        return answer(asItIs - fallenInTrial(n));
    }

    // ---- grafts

    public int odds(int scion, int stock) {
        if (!isQuarrel(scion) || !isQuarrel(stock)) {
            return refuse(NO_SUCH);
        }
        return answer(now.oddsOf(told, scion, stock));
    }

    public int grafted(int scion, int stock, int n) {
        if (!isQuarrel(scion) || !isQuarrel(stock)) {
            return refuse(NO_SUCH);
        }
        if (!isSpan(n)) {
            return refuse(NUMBER);
        }
        if (now.oddsOf(told, scion, stock) == 0) {
            return refuse(NOT_SO);
        }
        return answer(fallenBehindGraft(scion, stock, n));
    }

    public int bestGraft(int n) {
        if (!hasValley) {
            return refuse(NO_SUCH);
        }
        if (!isSpan(n)) {
            return refuse(NUMBER);
        }
        int fewest = fallenFromNow(n);
        int best = NO_ONE;
        for (int scion = 0; scion < told.quarrels; scion++) {
            for (int stock = 0; stock < told.quarrels; stock++) {
                if (now.oddsOf(told, scion, stock) > 0) {
                    int fall = fallenBehindGraft(scion, stock, n);
                    if (fall < fewest) {
                        fewest = fall;
                        best = 10 * scion + stock;
                    }
                }
            }
        }
        return answer(best);
    }

    public int left() {
        if (!hasValley) {
            return refuse(NO_SUCH);
        }
        makePlan();
        return answer(now.standing(told) - plan.bestLength);
    }

    public long surest(boolean lower) {
        if (!hasValley) {
            return refuse(NO_SUCH);
        }
        makePlan();
        answer(0);
        return plan.partOfLikelihood(lower);
    }

    public long takes(boolean lower) {
        if (!hasValley) {
            return refuse(NO_SUCH);
        }
        makePlan();
        answer(0);
        return plan.partOfMean(lower);
    }

    public int surestAt(int i) {
        if (!hasValley) {
            return refuse(NO_SUCH);
        }
        makePlan();
        if (i < 0 || i >= plan.bestLength) {
            return refuse(NO_SUCH);
        }
        return answer(plan.bestRow[i]);
    }

    // ---- pruned, fed

    public int prune(int q, int n) {
        if (!isStanding(q)) {
            return refuse(NO_SUCH);
        }
        if (n < 0 || n > MOST_PRUNED) {
            return refuse(NUMBER);
        }
        course.begin(told, now, q);
        course.planCuts(n);
        return answer(course.canPrune() ? course.coinsToPrune() : NO_ONE);
    }

    public int pruneAt(int q, int n, int i) {
        if (!isStanding(q)) {
            return refuse(NO_SUCH);
        }
        if (n < 0 || n > MOST_PRUNED) {
            return refuse(NUMBER);
        }
        if (i < 0 || i >= n) {
            return refuse(NO_SUCH);
        }
        course.begin(told, now, q);
        course.planCuts(n);
        if (!course.canPrune()) {
            return refuse(THERE_IS_NONE);
        }
        return answer(course.cutIn(i));
    }

    public int feedFor(int q, int ahead) {
        if (!isStanding(q)) {
            return refuse(NO_SUCH);
        }
        if (!isAhead(ahead)) {
            return refuse(NUMBER);
        }
        course.begin(told, now, q);
        for (int much = 0; much <= MOST_FED; much++) {
            if (course.fallsIn(ahead, much, 0, 0)) {
                return answer(much);
            }
        }
        return answer(NO_ONE);
    }

    public int feedAgainst(int q, int ahead, int cut) {
        if (!isStanding(q)) {
            return refuse(NO_SUCH);
        }
        if (!isAhead(ahead) || cut < 0 || cut > MOST_AGAINST) {
            return refuse(NUMBER);
        }
        course.begin(told, now, q);
        for (int much = 0; much <= MOST_FED; much++) {
            if (course.fallsIn(ahead, 0, much, cut)) {
                return answer(much);
            }
        }
        return answer(NO_ONE);
    }

    // ---- a fruit's shares, a game

    public int share(int q, int f, int deeds) {
        if (!isStanding(q) || !isFamily(f)) {
            return refuse(NO_SUCH);
        }
        if (deeds < 0 || deeds > MOST_SHARED) {
            return refuse(NUMBER);
        }
        return answer(told.shareOf(now.partiesOf(told, q), f, deeds));
    }

    public int game(int q, int fed, int cut, boolean guard) {
        if (!isStanding(q)) {
            return refuseFarBelow(NO_SUCH);
        }
        if (fed < 0 || fed > MOST_PLAYED || cut < 0 || cut > MOST_PLAYED) {
            return refuseFarBelow(NUMBER);
        }
        return answer(guard ? guardHas(q, fed, cut) : feederHas(q, fed, cut));
    }

    public int rests(int q) {
        if (!isStanding(q)) {
            return refuse(NO_SUCH);
        }
        int count = 0;
        for (int fed = 0; fed <= MOST_PLAYED; fed++) {
            for (int cut = 0; cut <= MOST_PLAYED; cut++) {
                if (isRest(q, fed, cut)) {
                    count++;
                }
            }
        }
        return answer(count);
    }

    public int rest(int q) {
        if (!isStanding(q)) {
            return refuse(NO_SUCH);
        }
        for (int fed = 0; fed <= MOST_PLAYED; fed++) {
            for (int cut = 0; cut <= MOST_PLAYED; cut++) {
                if (isRest(q, fed, cut)) {
                    return answer(10 * fed + cut);
                }
            }
        }
        return answer(NO_ONE);
    }

    // ---- explained

    public int ways() {
        if (!hasValley) {
            return refuse(NO_SUCH);
        }
        explanation.findAll(told);
        return answer(explanation.count);
    }

    public int wayAt(int i) {
        if (!hasValley) {
            return refuse(NO_SUCH);
        }
        explanation.findAll(told);
        if (i < 0 || i >= explanation.count) {
            return refuse(NO_SUCH);
        }
        return answer(explanation.found[i]);
    }

    public int judge() {
        if (!hasValley) {
            return refuse(NO_SUCH);
        }
        return answer(explanation.firstThatDoesNotFall(told));
    }

    // ---- years

    public int year(int seed) {
        if (!hasValley) {
            return refuse(NO_SUCH);
        }
        if (seed < 0 || seed > MOST_SEED) {
            return refuse(NUMBER);
        }
        return answer(fallenByDraws(seed, 1));
    }

    public int years(int seed, int n) {
        if (!hasValley) {
            return refuse(NO_SUCH);
        }
        if (seed < 0 || seed > MOST_SEED || n < 0 || n > MOST_YEARS) {
            return refuse(NUMBER);
        }
        return answer(fallenByDraws(seed, n));
    }

    // ---- acts

    public int graft(int scion, int stock) {
        if (!isQuarrel(scion) || !isQuarrel(stock)) {
            return refuse(NO_SUCH);
        }
        if (now.oddsOf(told, scion, stock) == 0) {
            return refuse(NOT_SO);
        }
        keepForUndo();
        now.join(scion, stock);
        planned = false;
        return answer(now.vigour[stock]);
    }

    public int nourish(int q, int much) {
        if (!isQuarrel(q)) {
            return refuse(NO_SUCH);
        }
        if (much < 1 || much > MOST_NOURISHED) {
            return refuse(NUMBER);
        }
        if (!now.stands(q)) {
            return refuse(NOT_SO);
        }
        keepForUndo();
        now.vigour[q] += much;
        return answer(now.vigour[q]);
    }

    public int cut(int q, int much) {
        if (!isQuarrel(q)) {
            return refuse(NO_SUCH);
        }
        if (!now.stands(q)) {
            return refuse(NOT_SO);
        }
        if (much < 1 || much > MOST_CUT || much > now.vigour[q]) {
            return refuse(NUMBER);
        }
        keepForUndo();
        now.vigour[q] -= much;
        now.paid += much * told.coins[now.season % ROUND];
        return answer(now.paid);
    }

    public int season() {
        if (!hasValley) {
            return refuse(NO_SUCH);
        }
        if (now.season >= MOST_SEASONS) {
            return refuse(NO_ROOM);
        }
        keepForUndo();
        return answer(Integer.bitCount(now.passByDeeds(told)));
    }

    public boolean undo() {
        if (actCount < 1) {
            refuse(THERE_IS_NONE);
            return false;
        }
        actCount--;
        now.become(acts[actCount]);
        planned = false;
        answer(0);
        return true;
    }

    public int image() {
        if (!hasValley) {
            return refuse(NO_SUCH);
        }
        if (imageCount >= MOST_IMAGES) {
            return refuse(NO_ROOM);
        }
        kept[imageCount].become(now);
        imageCount++;
        return answer(imageCount - 1);
    }

    public boolean back(int image) {
        if (image < 0 || image >= imageCount) {
            refuse(NO_SUCH);
            return false;
        }
        now.become(kept[image]);
        actCount = 0;
        planned = false;
        answer(0);
        return true;
    }

    // ---- what is told

    public int led(int i) throws NoSuchElementException {
        int which = nthWithoutVigour(i);
        if (which < 0) {
            throw new NoSuchElementException();
        }
        return which;
    }

    public int size(int what) {
        if (what == 12) {
            return tapeLength;
        }
        if (what < 0 || what > 12) {
            return NONE;
        }
        if (!hasValley) {
            return 0;
        }
        return what < 8 ? told.sizeOf(what) : sizeNow(what);
    }

    public int trouble() {
        return troubleNumber;
    }

    // ---- behind the face

    private int answer(int value) {
        troubleNumber = 0;
        return value;
    }

    private int refuse(int number) {
        troubleNumber = number;
        return NONE;
    }

    private int refuseFarBelow(int number) {
        troubleNumber = number;
        return FAR_BELOW;
    }

    private void putFourBytes(int number) {
        for (int shift = 24; shift >= 0; shift -= 8) {
            if (tapeLength < TAPE_BYTES) {
                tape[tapeLength] = (byte) (number >> shift);
                tapeLength++;
            }
        }
    }

    private boolean isQuarrel(int q) {
        return hasValley && q >= 0 && q < told.quarrels;
    }

    private boolean isFamily(int f) {
        return hasValley && f >= 0 && f < told.families;
    }

    private boolean isStanding(int q) {
        return isQuarrel(q) && now.stands(q);
    }

    private static boolean isSpan(int n) {
        return n >= 0 && n <= TOLD_SEASONS;
    }

    private static boolean isAhead(int ahead) {
        return ahead >= 0 && ahead < TOLD_SEASONS;
    }

    private static boolean has(int bits, int i) {
        return (bits >> i & 1) == 1;
    }

    private int factOf(int q, int what) {
        switch (what) {
            case 0:
                return told.kind[q];
            case 1:
                return now.vigourOf(q);
            case 2:
                return now.stands(q) ? NO_ONE : now.root[q];
            case 3:
                return now.kindsOf(told, q);
            case 4:
                return told.isPotted(q) ? 1 : 0;
            case 5:
                return now.fruits[q];
            default:
                return now.suckers[q];
        }
    }

    private int sizeNow(int what) {
        switch (what) {
            case 8:
                return now.season;
            case 9:
                return now.paid;
            case 10:
                return actCount;
            default:
                return imageCount;
        }
    }

    private void tryFromNow(int n) {
        trial.become(now);
        for (int i = 0; i < n; i++) {
            trial.passByDeeds(told);
        }
    }

    private int fallenInTrial(int n) {
        int fell = 0;
        for (int i = 0; i < n; i++) {
            fell += Integer.bitCount(trial.passByDeeds(told));
        }
        return fell;
    }

    private int fallenFromNow(int n) {
        trial.become(now);
        return fallenInTrial(n);
    }

    private int fallenBehindGraft(int scion, int stock, int n) {
        trial.become(now);
        trial.join(scion, stock);
        return fallenInTrial(n);
    }

    private int fallenByDraws(int seed, int n) {
        int quarrels = told.quarrels;
        int fell = 0;
        int drawn = seed;
        trial.become(now);
        for (int i = 0; i < n * ROUND && quarrels > 0; i++) {
            drawn = drawBehind(drawn);
            int who = drawn % quarrels;
            drawn = drawBehind(drawn);
            fell += Integer.bitCount(trial.passByDraw(told, who, drawn % 6));
        }
        return fell;
    }

    private static int drawBehind(int seed) {
        return (75 * seed + 74) % 65537;
    }

    private void makePlan() {
        if (!planned) {
            plan.seek(told, now);
            planned = true;
        }
    }

    private boolean fruitByGame(int q, int fed, int cutBy) {
        return Math.max(0, now.vigour[q] + fed - cutBy) >= told.bears;
    }

    private int feederHas(int q, int fed, int cutBy) {
        return (fruitByGame(q, fed, cutBy) ? FRUIT_WORTH : 0) - fed;
    }

    private int guardHas(int q, int fed, int cutBy) {
        return (fruitByGame(q, fed, cutBy) ? -FRUIT_WORTH : 0) - cutBy;
    }

    private boolean isRest(int q, int fed, int cutBy) {
        int feeder = feederHas(q, fed, cutBy);
        int guard = guardHas(q, fed, cutBy);
        for (int other = 0; other <= MOST_PLAYED; other++) {
            if (feederHas(q, other, cutBy) > feeder || guardHas(q, fed, other) > guard) {
                return false;
            }
        }
        return true;
    }

    private void keepForUndo() {
        if (actCount == MOST_ACTS) {
            Garden oldest = acts[0];
            for (int i = 1; i < MOST_ACTS; i++) {
                acts[i - 1] = acts[i];
            }
            acts[MOST_ACTS - 1] = oldest;
            actCount--;
        }
        acts[actCount].become(now);
        actCount++;
    }

    private int nthWithoutVigour(int i) {
        int seen = 0;
        for (int q = 0; hasValley && q < told.quarrels; q++) {
            if (now.stands(q) && now.vigour[q] == 0) {
                if (seen == i) {
                    return q;
                }
                seen++;
            }
        }
        return NONE;
    }

    /** What a text tells; it doesn't change by acts. */
    private static final class Valley {
        int winter;
        int bears;
        int families;
        int quarrels;
        int laws;
        int deeds;
        int fells;
        int pots;
        final int[] coins = new int[ROUND];
        final int[] people = new int[MOST];
        final int[] kind = new int[MOST];
        final int[] pair = new int[MOST];
        final int[] vigour = new int[MOST];
        final int[] lawOdds = new int[KIND_COUNT * KIND_COUNT];
        final int[] food = new int[MOST * TOLD_SEASONS];
        final int[] fellOf = new int[MOST_FELL];
        final int[] fellIn = new int[MOST_FELL];

        void empty() {
            winter = 0;
            bears = 0;
            families = 0;
            quarrels = 0;
            laws = 0;
            deeds = 0;
            fells = 0;
            pots = 0;
            for (int i = 0; i < KIND_COUNT * KIND_COUNT; i++) {
                lawOdds[i] = 0;
            }
            for (int i = 0; i < MOST * TOLD_SEASONS; i++) {
                food[i] = 0;
            }
        }

        boolean isPotted(int q) {
            return has(pots, q);
        }

        /** What deeds told of one, not of those that are grafted on it, feed in a season. */
        int foodOf(int q, int season) {
            return season < TOLD_SEASONS ? food[q * TOLD_SEASONS + season] : 0;
        }

        boolean fellAlready(int q, int season) {
            for (int i = 0; i < fells; i++) {
                if (fellOf[i] == q && fellIn[i] == season) {
                    return true;
                }
            }
            return false;
        }

        /** The greatest odds of a law of one of these kinds on one of those; 0 without one. */
        int greatestOdds(int scionKinds, int stockKinds) {
            int greatest = 0;
            for (int i = 0; i < KIND_COUNT * KIND_COUNT; i++) {
                if (lawOdds[i] > greatest && has(scionKinds, i / KIND_COUNT)
                        && has(stockKinds, i % KIND_COUNT)) {
                    greatest = lawOdds[i];
                }
            }
            return greatest;
        }

        int shareOf(int parties, int f, int shared) {
            int all = peopleOf(parties);
            if (!has(parties, f) || all < 1) {
                return 0;
            }
            int over = shared;
            int ahead = 0;
            int rest = shared * people[f] % all;
            for (int g = 0; g < families; g++) {
                if (has(parties, g)) {
                    over -= shared * people[g] / all;
                    int other = shared * people[g] % all;
                    if (other > rest || other == rest && g < f) {
                        ahead++;
                    }
                }
            }
            return shared * people[f] / all + (ahead < over ? 1 : 0);
        }

        private int peopleOf(int parties) {
            int all = 0;
            for (int f = 0; f < families; f++) {
                if (has(parties, f)) {
                    all += people[f];
                }
            }
            return all;
        }

        int sizeOf(int what) {
            switch (what) {
                case 0:
                    return winter;
                case 1:
                    return bears;
                case 2:
                    return families;
                case 3:
                    return quarrels;
                case 4:
                    return laws;
                case 5:
                    return deeds;
                case 6:
                    return fells;
                default:
                    return Integer.bitCount(pots);
            }
        }
    }

    /** How all quarrels stand ahead of a season. */
    private static final class Garden {
        int season;
        int paid;
        final int[] vigour = new int[MOST];
        // Of each the one that stands of which it is part: itself, if it stands.
        final int[] root = new int[MOST];
        final int[] fruits = new int[MOST];
        final int[] suckers = new int[MOST];

        void plant(Valley valley) {
            season = 0;
            paid = 0;
            for (int q = 0; q < MOST; q++) {
                vigour[q] = q < valley.quarrels ? valley.vigour[q] : 0;
                root[q] = q;
                fruits[q] = 0;
                suckers[q] = 0;
            }
        }

        void become(Garden other) {
            season = other.season;
            paid = other.paid;
            for (int q = 0; q < MOST; q++) {
                vigour[q] = other.vigour[q];
                root[q] = other.root[q];
                fruits[q] = other.fruits[q];
                suckers[q] = other.suckers[q];
            }
        }

        boolean stands(int q) {
            return root[q] == q;
        }

        int vigourOf(int q) {
            return stands(q) ? vigour[q] : 0;
        }

        int partiesOf(Valley valley, int q) {
            int bits = 0;
            for (int part = 0; part < valley.quarrels; part++) {
                if (root[part] == q) {
                    bits |= valley.pair[part];
                }
            }
            return bits;
        }

        int kindsOf(Valley valley, int q) {
            int bits = 0;
            for (int part = 0; part < valley.quarrels; part++) {
                if (root[part] == q) {
                    bits |= 1 << valley.kind[part];
                }
            }
            return bits;
        }

        /** Odds of a graft; 0 if it can't be. One on itself has its families in both. */
        int oddsOf(Valley valley, int scion, int stock) {
            if (!stands(scion) || !stands(stock)
                    || valley.isPotted(scion) || valley.isPotted(stock)
                    || (partiesOf(valley, scion) & partiesOf(valley, stock)) != 0) {
                return 0;
            }
            return valley.greatestOdds(kindsOf(valley, scion), kindsOf(valley, stock));
        }

        void join(int scion, int stock) {
            vigour[stock] += vigour[scion] / 2;
            vigour[scion] = 0;
            for (int q = 0; q < MOST; q++) {
                if (root[q] == scion) {
                    root[q] = stock;
                }
            }
        }

        /** A season by the deeds told: those of which a fruit falls, as bits. */
        int passByDeeds(Valley valley) {
            for (int q = 0; q < valley.quarrels; q++) {
                vigour[root[q]] += valley.foodOf(q, season);
            }
            return ripen(valley);
        }

        /** A season in which one alone is fed: those of which a fruit falls, as bits. */
        int passByDraw(Valley valley, int who, int much) {
            vigour[root[who]] += much;
            return ripen(valley);
        }

        private int ripen(Valley valley) {
            int borne = 0;
            for (int q = 0; q < valley.quarrels; q++) {
                if (stands(q)) {
                    if (season % ROUND == WINTER && !valley.isPotted(q)) {
                        vigour[q] = Math.max(0, vigour[q] - valley.winter);
                    }
                    if (vigour[q] >= valley.bears) {
                        vigour[q] -= valley.bears;
                        fruits[q]++;
                        borne |= 1 << q;
                    }
                }
            }
            if (season % SUCKER_SEASONS == SUCKER_SEASONS - 1) {
                growSuckers(valley);
            }
            season++;
            return borne;
        }

        private void growSuckers(Valley valley) {
            for (int q = 0; q < valley.quarrels; q++) {
                if (stands(q) && !valley.isPotted(q) && vigour[q] >= SUCKER_VIGOUR) {
                    suckers[q]++;
                }
            }
        }

        int suckersOfAll() {
            int all = 0;
            for (int q = 0; q < MOST; q++) {
                all += suckers[q];
            }
            return all;
        }

        int standing(Valley valley) {
            int count = 0;
            for (int q = 0; q < valley.quarrels; q++) {
                if (stands(q)) {
                    count++;
                }
            }
            return count;
        }

        int familiesAtPeace(Valley valley) {
            int atOdds = 0;
            for (int q = 0; q < valley.quarrels; q++) {
                if (vigour[root[q]] > 0) {
                    atOdds |= valley.pair[q];
                }
            }
            return (1 << valley.families) - 1 & ~atOdds;
        }

        boolean isAllPeace(Valley valley) {
            return familiesAtPeace(valley) == (1 << valley.families) - 1;
        }
    }

    /** The seasons to come of a single quarrel: when fruits fall, what keeps them. */
    private static final class Course {
        // Nothing above so much vigour can be kept through a season without a fruit:
        // bears is 30 at most, and winter takes 9 at most.
        private static final int KEPT = 40;
        private static final int CANNOT = 1000000;

        private int vigour;
        private int bears;
        private int planned;
        private final int[] food = new int[TOLD_SEASONS];
        private final int[] loss = new int[TOLD_SEASONS];
        private final int[] price = new int[TOLD_SEASONS];
        // By season and vigour ahead of it: the least coins from there on, and the cut.
        private final int[] coins = new int[(MOST_PRUNED + 1) * KEPT];
        private final int[] cuts = new int[MOST_PRUNED * KEPT];

        void begin(Valley valley, Garden garden, int q) {
            vigour = garden.vigour[q];
            bears = valley.bears;
            for (int i = 0; i < TOLD_SEASONS; i++) {
                int season = garden.season + i;
                food[i] = 0;
                for (int part = 0; part < valley.quarrels; part++) {
                    if (garden.root[part] == q) {
                        food[i] += valley.foodOf(part, season);
                    }
                }
                boolean suffers = season % ROUND == WINTER && !valley.isPotted(q);
                loss[i] = suffers ? valley.winter : 0;
                price[i] = valley.coins[season % ROUND];
            }
        }

        /** Vigour in a season, behind deeds and winter, ahead of a fruit. */
        private int ripe(int i, int strength) {
            return Math.max(0, strength + food[i] - loss[i]);
        }

        /** Whether a fruit falls so far ahead, fed so much once, so much in each, cut in each. */
        boolean fallsIn(int ahead, int once, int each, int cutBy) {
            int strength = vigour;
            boolean falls = false;
            for (int i = 0; i <= ahead && i < TOLD_SEASONS; i++) {
                int fed = each + (i == 0 ? once : 0);
                strength = ripe(i, Math.max(0, strength - cutBy) + fed);
                falls = strength >= bears;
                if (falls) {
                    strength -= bears;
                }
            }
            return falls;
        }

        void planCuts(int n) {
            planned = Math.min(n, MOST_PRUNED);
            for (int v = 0; v < KEPT; v++) {
                coins[planned * KEPT + v] = 0;
            }
            for (int i = planned - 1; i >= 0; i--) {
                planCutsIn(i);
            }
        }

        // Cutting at v is either nothing, or 1 and then what is best at v - 1: of like ones
        // the latter, since most is to be cut in the first season.
        private void planCutsIn(int i) {
            for (int v = 0; v < KEPT; v++) {
                int here = i * KEPT + v;
                int ripened = ripe(i, v);
                coins[here] = ripened < bears && ripened < KEPT ? coins[(i + 1) * KEPT + ripened] : CANNOT;
                cuts[here] = 0;
                if (v > 0 && coins[here - 1] < CANNOT && coins[here - 1] + price[i] <= coins[here]) {
                    coins[here] = coins[here - 1] + price[i];
                    cuts[here] = cuts[here - 1] + 1;
                }
            }
        }

        boolean canPrune() {
            return coins[Math.min(vigour, KEPT - 1)] < CANNOT;
        }

        int coinsToPrune() {
            return planned == 0 ? 0 : coins[Math.min(vigour, KEPT - 1)] + tooMuch(vigour) * price[0];
        }

        int cutIn(int wanted) {
            int strength = vigour;
            int cutBy = 0;
            for (int i = 0; i <= wanted && i < planned; i++) {
                cutBy = cuts[i * KEPT + Math.min(strength, KEPT - 1)] + tooMuch(strength);
                strength = ripe(i, strength - cutBy);
            }
            return cutBy;
        }

        private static int tooMuch(int strength) {
            return Math.max(0, strength - (KEPT - 1));
        }
    }

    /** The row of grafts that leaves fewest, the likeliest and first of these. */
    private static final class GraftPlan {
        // By level: how all that may be grafted stand behind so many grafts (0: it doesn't).
        private final int[] parties = new int[(MOST + 1) * MOST];
        private final int[] kinds = new int[(MOST + 1) * MOST];
        private final int[] row = new int[MOST];
        private final int[] rowOdds = new int[MOST];
        private Valley valley;
        // No graft of these quarrels is likelier.
        private int topOdds;
        private long bestProduct;
        private int bestOddsSum;
        int bestLength;
        final int[] bestRow = new int[MOST];

        void seek(Valley told, Garden garden) {
            valley = told;
            int present = 0;
            for (int q = 0; q < MOST; q++) {
                boolean free = q < told.quarrels && garden.stands(q) && !told.isPotted(q);
                parties[q] = free ? garden.partiesOf(told, q) : 0;
                kinds[q] = free ? garden.kindsOf(told, q) : 0;
                present |= kinds[q];
            }
            topOdds = told.greatestOdds(present, present);
            bestLength = -1;
            bestProduct = 0;
            goOn(0, 1);
        }

        private void goOn(int level, long product) {
            if (level > bestLength || level == bestLength && product > bestProduct) {
                keepRow(level, product);
            }
            if (level >= MOST || !canBeBetter(level, product)) {
                return;
            }
            for (int scion = 0; scion < MOST; scion++) {
                for (int stock = 0; stock < MOST; stock++) {
                    int odds = oddsAt(level * MOST + scion, level * MOST + stock);
                    if (odds > 0) {
                        row[level] = 10 * scion + stock;
                        rowOdds[level] = odds;
                        joinAbove(level, scion, stock);
                        goOn(level + 1, product * odds);
                    }
                }
            }
        }

        private int oddsAt(int scion, int stock) {
            if (parties[scion] == 0 || parties[stock] == 0 || (parties[scion] & parties[stock]) != 0) {
                return 0;
            }
            return valley.greatestOdds(kinds[scion], kinds[stock]);
        }

        private void joinAbove(int level, int scion, int stock) {
            int here = level * MOST;
            int above = here + MOST;
            for (int q = 0; q < MOST; q++) {
                parties[above + q] = q == scion ? 0 : parties[here + q];
                kinds[above + q] = q == scion ? 0 : kinds[here + q];
            }
            parties[above + stock] |= parties[here + scion];
            kinds[above + stock] |= kinds[here + scion];
        }

        private void keepRow(int length, long product) {
            bestLength = length;
            bestProduct = product;
            bestOddsSum = 0;
            for (int i = 0; i < length; i++) {
                bestRow[i] = row[i];
                bestOddsSum += rowOdds[i];
            }
        }

        // Rows come in their order, so a later one must be longer or likelier to be kept.
        private boolean canBeBetter(int level, long product) {
            int more = mostGrafts(level);
            if (level + more != bestLength) {
                return level + more > bestLength;
            }
            long likeliest = product;
            for (int i = 0; i < more; i++) {
                likeliest *= topOdds;
            }
            return likeliest > bestProduct;
        }

        // What stands in the end has each family once at most in what was grafted together.
        private int mostGrafts(int level) {
            int standing = 0;
            int seats = 0;
            for (int q = 0; q < MOST; q++) {
                int bits = parties[level * MOST + q];
                if (bits != 0) {
                    standing++;
                    seats += Integer.bitCount(bits);
                }
            }
            int families = Math.max(1, valley.families);
            return standing - (seats + families - 1) / families;
        }

        long partOfLikelihood(boolean lower) {
            long whole = 1;
            for (int i = 0; i < bestLength; i++) {
                whole *= 100;
            }
            return partOf(bestProduct, whole, lower);
        }

        long partOfMean(boolean lower) {
            return partOf(bestOddsSum, 100, lower);
        }

        private static long partOf(long upper, long under, boolean lower) {
            long greater = upper;
            long common = under;
            for (int i = 0; i < 100 && greater > 0; i++) {
                long rest = common % greater;
                common = greater;
                greater = rest;
            }
            long part = lower ? under : upper;
            return common > 0 ? part / common : part;
        }
    }

    /** Which single graft, or none, makes just the fruits fall that are told. */
    private static final class Explanation {
        private final Garden start = new Garden();
        private final Garden trial = new Garden();
        final int[] found = new int[MOST * MOST + 1];
        int count;

        void findAll(Valley valley) {
            count = 0;
            start.plant(valley);
            trial.become(start);
            keepIfExplained(valley, NO_ONE);
            for (int scion = 0; scion < valley.quarrels; scion++) {
                for (int stock = 0; stock < valley.quarrels; stock++) {
                    if (start.oddsOf(valley, scion, stock) > 0) {
                        trial.become(start);
                        trial.join(scion, stock);
                        keepIfExplained(valley, 10 * scion + stock);
                    }
                }
            }
        }

        private void keepIfExplained(Valley valley, int way) {
            for (int season = 0; season < TOLD_SEASONS; season++) {
                int due = toldIn(valley, season);
                if (trial.passByDeeds(valley) != due) {
                    return;
                }
            }
            found[count] = way;
            count++;
        }

        private int toldIn(Valley valley, int season) {
            int bits = 0;
            for (int i = 0; i < valley.fells; i++) {
                if (valley.fellIn[i] == season) {
                    bits |= 1 << trial.root[valley.fellOf[i]];
                }
            }
            return bits;
        }

        int firstThatDoesNotFall(Valley valley) {
            int falling = 0;
            trial.plant(valley);
            for (int season = 0; season < TOLD_SEASONS; season++) {
                int borne = trial.passByDeeds(valley);
                for (int i = 0; i < valley.fells; i++) {
                    if (valley.fellIn[i] == season && has(borne, valley.fellOf[i])) {
                        falling |= 1 << i;
                    }
                }
            }
            for (int i = 0; i < valley.fells; i++) {
                if (!has(falling, i)) {
                    return i;
                }
            }
            return NO_ONE;
        }
    }

    /** Reads a text from the left, token by token; stops at the first fault. */
    private static final class Reader {
        // Sorts of tokens; what begins none is of its own sort.
        private static final int END = 0;
        private static final int WORD = 1;
        private static final int WHOLE = 2;
        private static final int SEMICOLON = 3;
        private static final int NO_TOKEN = 4;

        // Lines by their first words.
        private static final int VALLEY = 0;
        private static final int FAMILY = 1;
        private static final int QUARREL = 2;
        private static final int LAW = 3;
        private static final int DEED = 4;
        private static final int POT = 5;
        private static final int FELL = 6;

        int fault;
        int faultPlace;
        private byte[] text;
        private int length;
        private Valley into;
        private boolean valleyTold;
        // The token at hand, and of a word its letters as a number.
        private int sort;
        private int place;
        private int behind;
        private int value;
        private long letters;
        // What take..() took last: a whole, or a quarrel's, family's or kind's number.
        private int taken;
        private final long[] familyNames = new long[MOST];
        private final long[] quarrelNames = new long[MOST];

        boolean readValley(byte[] bytes, int n, Valley valley) {
            text = bytes;
            length = n;
            into = valley;
            valley.empty();
            valleyTold = false;
            fault = 0;
            faultPlace = 0;
            behind = 0;
            readToken();
            boolean good = takeLine();
            for (int i = 0; i < TAPE_BYTES && good && sort == SEMICOLON; i++) {
                readToken();
                good = takeLine();
            }
            if (good && sort != END) {
                good = fail(FORM);
            }
            if (good && into.quarrels == 0) {
                good = fail(LACKS);
            }
            return good;
        }

        private boolean fail(int number) {
            fault = number;
            faultPlace = place;
            return false;
        }

        // ---- tokens

        private void readToken() {
            int at = behind;
            while (at < length && text[at] == ' ') {
                at++;
            }
            place = at;
            behind = at + 1;
            if (at >= length) {
                sort = END;
                behind = at;
            } else if (text[at] == ';') {
                sort = SEMICOLON;
            } else if (text[at] >= 'a' && text[at] <= 'z') {
                readWord();
            } else if (text[at] >= '0' && text[at] <= '9') {
                readWhole();
            } else {
                sort = NO_TOKEN;
            }
        }

        // Letters that stand together are one word or, if they are too many, no token.
        private void readWord() {
            int at = place;
            letters = 0;
            while (at < length && text[at] >= 'a' && text[at] <= 'z') {
                letters = letters * 27 + (text[at] - 'a' + 1);
                at++;
            }
            behind = at;
            sort = at - place <= 8 ? WORD : NO_TOKEN;
        }

        private void readWhole() {
            int at = place;
            value = 0;
            while (at < length && text[at] >= '0' && text[at] <= '9') {
                value = value * 10 + (text[at] - '0');
                at++;
            }
            behind = at;
            sort = at - place <= 3 ? WHOLE : NO_TOKEN;
        }

        private boolean isWord(String word) {
            if (sort != WORD || behind - place != word.length()) {
                return false;
            }
            for (int i = 0; i < word.length(); i++) {
                if (text[place + i] != word.charAt(i)) {
                    return false;
                }
            }
            return true;
        }

        private int lineAtHand() {
            return isWord("valley") ? VALLEY
                    : isWord("family") ? FAMILY
                    : isWord("quarrel") ? QUARREL
                    : isWord("law") ? LAW
                    : isWord("deed") ? DEED
                    : isWord("pot") ? POT
                    : isWord("fell") ? FELL
                    : NONE;
        }

        private int kindAtHand() {
            return isWord("land") ? 0
                    : isWord("word") ? 1
                    : isWord("love") ? 2
                    : isWord("debt") ? 3
                    : NONE;
        }

        // ---- parts of lines

        private boolean takeWord(String word) {
            if (!isWord(word)) {
                return fail(FORM);
            }
            readToken();
            return true;
        }

        private boolean takeWhole(int least, int most) {
            if (sort != WHOLE) {
                return fail(FORM);
            }
            if (value < least || value > most) {
                return fail(BOUNDS);
            }
            taken = value;
            readToken();
            return true;
        }

        private boolean takeKind() {
            taken = kindAtHand();
            if (taken < 0) {
                return fail(FORM);
            }
            readToken();
            return true;
        }

        private boolean takeNewName(long[] names, int number) {
            if (sort != WORD || lineAtHand() != NONE) {
                return fail(FORM);
            }
            if (familyAtHand() >= 0 || quarrelAtHand() >= 0) {
                return fail(AGAIN);
            }
            if (number < names.length) {
                names[number] = letters;
            }
            readToken();
            return true;
        }

        private boolean takeFamily(int unlike) {
            if (sort != WORD || lineAtHand() != NONE) {
                return fail(FORM);
            }
            taken = familyAtHand();
            if (taken < 0) {
                return fail(UNTOLD);
            }
            if (taken == unlike) {
                return fail(AGAIN);
            }
            readToken();
            return true;
        }

        private boolean takeQuarrel(boolean unpotted) {
            if (sort != WORD || lineAtHand() != NONE) {
                return fail(FORM);
            }
            taken = quarrelAtHand();
            if (taken < 0) {
                return fail(UNTOLD);
            }
            if (unpotted && into.isPotted(taken)) {
                return fail(AGAIN);
            }
            readToken();
            return true;
        }

        private int familyAtHand() {
            for (int f = 0; f < into.families; f++) {
                if (familyNames[f] == letters) {
                    return f;
                }
            }
            return NONE;
        }

        private int quarrelAtHand() {
            for (int q = 0; q < into.quarrels; q++) {
                if (quarrelNames[q] == letters) {
                    return q;
                }
            }
            return NONE;
        }

        // ---- lines

        private boolean takeLine() {
            int line = lineAtHand();
            if (line < 0) {
                return fail(FORM);
            }
            if (line == VALLEY && valleyTold) {
                return fail(AGAIN);
            }
            if (isFull(line)) {
                return fail(MANY);
            }
            if (line != VALLEY && !valleyTold) {
                return fail(LACKS);
            }
            readToken();
            switch (line) {
                case VALLEY:
                    return takeValley();
                case FAMILY:
                    return takeFamilyLine();
                case QUARREL:
                    return takeQuarrelLine();
                case LAW:
                    return takeLaw();
                case DEED:
                    return takeDeed();
                case POT:
                    return takePot();
                default:
                    return takeFell();
            }
        }

        private boolean isFull(int line) {
            return line == FAMILY && into.families >= MOST
                    || line == QUARREL && into.quarrels >= MOST
                    || line == LAW && into.laws >= MOST_LAWS
                    || line == DEED && into.deeds >= MOST_DEEDS
                    || line == FELL && into.fells >= MOST_FELL;
        }

        private boolean takeValley() {
            valleyTold = true;
            if (!takeWord("winter") || !takeWhole(0, 9)) {
                return false;
            }
            into.winter = taken;
            if (!takeWord("bears") || !takeWhole(4, 30)) {
                return false;
            }
            into.bears = taken;
            if (!takeWord("coins")) {
                return false;
            }
            for (int i = 0; i < ROUND; i++) {
                if (!takeWhole(1, 9)) {
                    return false;
                }
                into.coins[i] = taken;
            }
            return true;
        }

        private boolean takeFamilyLine() {
            int f = into.families;
            if (!takeNewName(familyNames, f) || !takeWord("people") || !takeWhole(1, 99)) {
                return false;
            }
            into.people[f] = taken;
            into.families++;
            return true;
        }

        private boolean takeQuarrelLine() {
            int q = into.quarrels;
            if (!takeNewName(quarrelNames, q) || !takeKind()) {
                return false;
            }
            into.kind[q] = taken;
            if (!takeWord("of") || !takeFamily(NONE)) {
                return false;
            }
            int one = taken;
            if (!takeFamily(one)) {
                return false;
            }
            into.pair[q] = 1 << one | 1 << taken;
            if (!takeWord("vigour") || !takeWhole(0, 30)) {
                return false;
            }
            into.vigour[q] = taken;
            into.quarrels++;
            return true;
        }

        private boolean takeLaw() {
            if (!takeKind()) {
                return false;
            }
            int scion = taken;
            if (!takeWord("on")) {
                return false;
            }
            int stock = kindAtHand();
            if (stock >= 0 && into.lawOdds[scion * KIND_COUNT + stock] > 0) {
                return fail(AGAIN);
            }
            if (!takeKind() || !takeWord("odds") || !takeWhole(1, 100)) {
                return false;
            }
            into.lawOdds[scion * KIND_COUNT + stock] = taken;
            into.laws++;
            return true;
        }

        private boolean takeDeed() {
            if (!takeQuarrel(false)) {
                return false;
            }
            int q = taken;
            if (!takeWord("season") || !takeWhole(0, TOLD_SEASONS - 1)) {
                return false;
            }
            int season = taken;
            if (!takeWord("feeds") || !takeWhole(1, 9)) {
                return false;
            }
            into.food[q * TOLD_SEASONS + season] += taken;
            into.deeds++;
            return true;
        }

        private boolean takePot() {
            if (!takeQuarrel(true)) {
                return false;
            }
            into.pots |= 1 << taken;
            return true;
        }

        private boolean takeFell() {
            if (!takeQuarrel(false)) {
                return false;
            }
            int q = taken;
            if (!takeWord("season")) {
                return false;
            }
            if (sort == WHOLE && into.fellAlready(q, value)) {
                return fail(AGAIN);
            }
            if (!takeWhole(0, TOLD_SEASONS - 1)) {
                return false;
            }
            into.fellOf[into.fells] = q;
            into.fellIn[into.fells] = taken;
            into.fells++;
            return true;
        }
    }
}
