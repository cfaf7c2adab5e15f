import java.util.Arrays;
import java.util.NoSuchElementException;

/** A suit at its second fitting: what is amiss, where to pin it, and what becomes of it by the wedding. */
public final class SecondFitting {
    public static final int NONE = -1;

    // Answers that are no refusal by NONE.
    private static final int NOTHING = -2;
    private static final int FAR_OFF = -1000;
    private static final int NO_PIN_MEETS = 100;

    // TROUBLE.
    private static final int FINE = 0;
    private static final int NO_SUCH = 1;
    private static final int NUMBER = 2;
    private static final int NO_ROOM = 3;
    private static final int FAULTY = 4;
    private static final int NOT_SO = 5;
    private static final int THERE_IS_NONE = 6;

    // FAULTS.
    private static final int FORM = 1;
    private static final int UNTOLD = 2;
    private static final int AGAIN = 3;
    private static final int BOUNDS = 4;
    private static final int MANY = 5;
    private static final int LACKS = 6;

    // How much there is room for.
    private static final int TAPE = 1000;
    private static final int FED = 20;
    private static final int MEASURES = 6;
    private static final int SEAMS = 6;
    private static final int PULLS = 12;
    private static final int STRIPES = 4;
    private static final int FEASTS = 6;
    private static final int READINGS = 8;
    private static final int ACTS = 16;
    private static final int MARKS = 3;

    private static final int LAST_DAY = 99;
    private static final int MOST_DAYS = 60;
    private static final int MOST_WEAR = 90;
    private static final int MOST_MONTHS = 60;
    private static final int LAST_SEED = 65536;
    private static final int FARTHEST_PIN = 9;
    private static final int FARTHEST_EVEN_PIN = 8;
    private static final int MOST_PINS = 3;
    private static final int ROUNDS = 20;
    private static final int ALL_ORDERS = 720;
    private static final int REPEAT = 8;
    private static final int WEAR_THAT_GIVES = 10;
    private static final int HUNDRED = 100;
    private static final int NEVER_READ = 1000;

    // KINDS of seams.
    private static final int PLAIN = 0;
    private static final int STRIPED = 1;
    private static final int PULLING = 2;
    private static final int WORN = 3;

    // POSES.
    private static final int STANDING = 0;
    private static final int SITTING = 1;
    private static final int ARMS_UP = 2;
    private static final int POSES = 3;

    // Sorts of TOKENS.
    private static final int END = 0;
    private static final int WORD = 1;
    private static final int WHOLE = 2;
    private static final int PARTING = 3;
    private static final int NO_TOKEN = 4;
    private static final int WORD_LETTERS = 8;
    private static final int WHOLE_DIGITS = 3;

    // The WORDS of a SUIT, each as the number that its bytes are.
    private static final long SUIT_WORD = 0x73756974L;
    private static final long WITHIN_WORD = 0x77697468696eL;
    private static final long WEDDING_WORD = 0x77656464696e67L;
    private static final long MEASURE_WORD = 0x6d656173757265L;
    private static final long BODY_WORD = 0x626f6479L;
    private static final long HOLDS_WORD = 0x686f6c6473L;
    private static final long GROWS_WORD = 0x67726f7773L;
    private static final long SEAM_WORD = 0x7365616dL;
    private static final long PLAIN_WORD = 0x706c61696eL;
    private static final long STRIPED_WORD = 0x73747269706564L;
    private static final long PULLING_WORD = 0x70756c6c696e67L;
    private static final long WORN_WORD = 0x776f726eL;
    private static final long AT_WORD = 0x6174L;
    private static final long SIZE_WORD = 0x73697a65L;
    private static final long LEFT_WORD = 0x6c656674L;
    private static final long PULL_WORD = 0x70756c6cL;
    private static final long STRIPE_WORD = 0x737472697065L;
    private static final long FEAST_WORD = 0x6665617374L;
    private static final long CHANCE_WORD = 0x6368616e6365L;
    private static final long READ_WORD = 0x72656164L;

    // Sorts of LINES.
    private static final int SUIT_LINE = 0;
    private static final int MEASURE_LINE = 1;
    private static final int SEAM_LINE = 2;
    private static final int PULL_LINE = 3;
    private static final int STRIPE_LINE = 4;
    private static final int FEAST_LINE = 5;
    private static final int READ_LINE = 6;

    private final byte[] tape = new byte[TAPE];
    private int fed;
    private Plan plan = new Plan();
    private final Reader reader = new Reader();
    private final Fitting now = new Fitting();
    private final Acts acts = new Acts();
    private final Pins pins = new Pins();
    private final Eye eye = new Eye();
    private int refusal;
    private int faultTold;
    private int faultPlace = NONE;
    // For how many feasts the dear searches have been made since the suit last changed.
    private int pinsFor = NONE;
    private int eyeFor = NONE;

    public SecondFitting() {
    }

    // ---- the suit

    public int feed(int a, int b, int c, int d, int e) {
        if (fed + FED > TAPE) {
            return NONE;
        }
        tapeOn(a);
        tapeOn(b);
        tapeOn(c);
        tapeOn(d);
        tapeOn(e);
        return fed;
    }

    public int suit(int n) {
        if (n < 0 || n > fed) {
            refusal = NUMBER;
            return NONE;
        }
        fed = 0;
        reader.readAll(tape, n);
        faultTold = reader.found;
        faultPlace = reader.place;
        if (faultTold != 0) {
            refusal = FAULTY;
            return NONE;
        }
        plan = reader.handOver(plan);
        now.begin(plan.cloth);
        acts.clear();
        forgetSearches();
        refusal = FINE;
        return plan.cloth.seams;
    }

    public int fault() {
        return faultTold;
    }

    public int where() {
        return refusal == FAULTY ? faultPlace : NONE;
    }

    // ---- now

    public int seam(int s, int what) {
        if (!taken(isSeam(s) && what >= 0 && what <= 3, true)) {
            return NONE;
        }
        switch (what) {
            case 0:
                return plan.cloth.kinds[s];
            case 1:
                return plan.cloth.at[s];
            case 2:
                return plan.sizeOf(now, s);
            default:
                return now.left[s];
        }
    }

    public int pull(int s, int other) {
        return taken(isSeam(s) && isSeam(other) && s != other, true) ? plan.cloth.pullAt(s, other) : NONE;
    }

    public int body(int m, int day) {
        return taken(isMeasure(m), isDay(day)) ? plan.bodyOn(m, day) : NONE;
    }

    public int measured(int m, int day) {
        return taken(isMeasure(m), isDay(day)) ? plan.measuredOn(m, day) : NONE;
    }

    public int taped(int m, int day, int seed) {
        return taken(isMeasure(m), isDay(day) && isSeed(seed))
            ? plan.measuredOn(m, day) + Feasts.draw(seed) % 3 - 1 : NONE;
    }

    public int amiss(int s, int day, int pose) {
        return taken(isSeam(s) && isPose(pose), isDay(day)) ? plan.amissOf(now, s, kept(day), pose) : FAR_OFF;
    }

    public int together(int day, int pose) {
        return taken(isSuit() && isPose(pose), isDay(day)) ? plan.sumAmiss(now, kept(day), pose) : NONE;
    }

    public int wrong(int day, int pose) {
        return taken(isSuit() && isPose(pose), isDay(day)) ? plan.wrongSeams(now, kept(day), pose) : NONE;
    }

    public int fits(int day) {
        if (!taken(isSuit(), isDay(day))) {
            return NONE;
        }
        int bits = 0;
        for (int pose = 0; pose < POSES; pose++) {
            if (plan.wrongSeams(now, kept(day), pose) == 0) {
                bits |= 1 << pose;
            }
        }
        return bits;
    }

    public int until() {
        if (!taken(isSuit(), true)) {
            return NONE;
        }
        for (int day = now.day; day <= LAST_DAY; day++) {
            if (plan.wrongSeams(now, kept(day), STANDING) != 0) {
                return day;
            }
        }
        return NOTHING;
    }

    public int worst(int day) {
        return taken(isSuit(), isDay(day)) ? worstSeam(kept(day)) : NONE;
    }

    public int worstPose(int day) {
        if (!taken(isSuit(), isDay(day))) {
            return NONE;
        }
        return plan.worstPoseOf(now, worstSeam(kept(day)), kept(day));
    }

    public int stripe(int k, int what) {
        if (!taken(isStripe(k) && what >= 0 && what <= 3, true)) {
            return NONE;
        }
        switch (what) {
            case 0:
                return plan.cloth.firsts[k];
            case 1:
                return plan.cloth.seconds[k];
            case 2:
                return plan.cloth.lies[k];
            default:
                return plan.liesBy(now, k, 0);
        }
    }

    // ---- pins

    public int tryPin(int s, int eighths) {
        if (!pinTaken(s, eighths)) {
            return NONE;
        }
        pins.lay(plan, now, kept(now.day));
        return pins.sumBehind(s, eighths, false);
    }

    public int fewest(int day) {
        if (!taken(isSuit(), isDay(day))) {
            return NONE;
        }
        searchPins(kept(day));
        return pins.fewestFound;
    }

    public int pinOf(int day, int s) {
        if (!taken(isSeam(s), isDay(day))) {
            return FAR_OFF;
        }
        searchPins(kept(day));
        if (pins.fewestFound < 0) {
            refusal = THERE_IS_NONE;
            return FAR_OFF;
        }
        return pins.row[s];
    }

    public int best(int day) {
        return bestTaken(day, false) ? pins.bestSeam : NONE;
    }

    public int bestBy(int day) {
        return bestTaken(day, false) ? pins.bestEighths : FAR_OFF;
    }

    public int bestLeaves(int day) {
        return bestTaken(day, false) ? pins.bestSum : NONE;
    }

    public int bestAll(int day) {
        return bestTaken(day, true) ? pins.bestSeam : NONE;
    }

    public int bestAllBy(int day) {
        return bestTaken(day, true) ? pins.bestEighths : FAR_OFF;
    }

    public int bestAllLeaves(int day) {
        return bestTaken(day, true) ? pins.bestSum : NONE;
    }

    public int reach(int s) {
        return taken(isSeam(s), true) ? plan.cloth.reachOf(s) : NONE;
    }

    // ---- by eye

    public int settles(int day) {
        if (!taken(isSuit(), isDay(day))) {
            return NONE;
        }
        eye.lay(plan, now, kept(day));
        return eye.roundsInOrder();
    }

    public int orders(int day) {
        if (!taken(isSuit(), isDay(day))) {
            return NONE;
        }
        searchOrders(kept(day));
        return eye.bestRounds;
    }

    public int orderAt(int day, int i) {
        if (!taken(isSeam(i), isDay(day))) {
            return NONE;
        }
        searchOrders(kept(day));
        if (eye.bestRounds < 0) {
            refusal = THERE_IS_NONE;
            return NONE;
        }
        return eye.bestOrder[i];
    }

    // ---- what to leave, when

    public long enough(int s, int day, boolean lower) {
        if (!taken(isSeam(s), isDay(day))) {
            return NONE;
        }
        int feasts = kept(day);
        plan.feasts.weigh(feasts);
        long whole = plan.feasts.ways;
        long likely = plan.likely(s, plan.sizeOf(now, s) + now.left[s], feasts);
        long divisor = commonDivisor(whole, likely);
        if (divisor <= 0) {
            return 0;
        }
        return (lower ? whole : likely) / divisor;
    }

    public int need(int s, int day) {
        return taken(isSeam(s), isDay(day)) ? plan.lacking(now, s, kept(day)) : NONE;
    }

    public int leave(int s, int percent) {
        if (!taken(isSeam(s), percent >= 0 && percent <= HUNDRED)) {
            return NONE;
        }
        int feasts = kept(plan.wedding);
        plan.feasts.weigh(feasts);
        return percent == 0 ? 0 : plan.lacking(now, s, plan.feasts.keptBy(percent, feasts));
    }

    public int visits() {
        if (!taken(isSuit(), true)) {
            return NONE;
        }
        int count = plan.visitsFrom(now.day);
        return count == 0 ? NOTHING : count;
    }

    public int visitAt(int i) {
        if (!taken(isSuit() && i >= 0 && i < plan.visitsFrom(now.day), true)) {
            return NONE;
        }
        int day = now.day;
        for (int visit = 0; visit < i; visit++) {
            day = plan.visitBehind(day);
        }
        return day;
    }

    public int when() {
        return taken(isSuit(), true) ? plan.bestCutDay() : NONE;
    }

    public int whenAmiss() {
        return taken(isSuit(), true) ? plan.sumIfCut(plan.bestCutDay()) : NONE;
    }

    // ---- what he is

    public int truly(int m, boolean most) {
        if (!taken(isMeasure(m), true)) {
            return NONE;
        }
        int room = plan.roomOf(m);
        return room < 0 || room == NEVER_READ ? NOTHING : plan.boundOf(m, most);
    }

    public int widest() {
        if (!taken(isSuit(), true)) {
            return NONE;
        }
        int widestOne = NOTHING;
        int most = NOTHING;
        for (int m = 0; m < plan.measures.count; m++) {
            if (plan.roomOf(m) > most) {
                most = plan.roomOf(m);
                widestOne = m;
            }
        }
        return widestOne;
    }

    public int judge() {
        if (!taken(isSuit(), true)) {
            return NONE;
        }
        for (int r = 0; r < plan.measures.readings; r++) {
            if (!plan.canBeRead(r)) {
                return r;
            }
        }
        return NOTHING;
    }

    public int part(int s, int day, boolean suit) {
        if (!taken(isSeam(s), isDay(day))) {
            return FAR_OFF;
        }
        int he = -plan.measures.grownBy(plan.cloth.at[s], kept(day));
        return suit ? plan.amissOf(now, s, kept(day), STANDING) - he : he;
    }

    // ---- stripes, what gives

    public int meets() {
        if (!taken(isSuit(), true)) {
            return NONE;
        }
        int bits = 0;
        for (int k = 0; k < plan.cloth.stripes; k++) {
            if (plan.meetsBy(now, k, 0)) {
                bits |= 1 << k;
            }
        }
        return bits;
    }

    public int meetBy(int k) {
        if (!taken(isStripe(k), true)) {
            return FAR_OFF;
        }
        for (int eighths = 0; eighths <= FARTHEST_PIN; eighths++) {
            if (plan.meetsBy(now, k, eighths)) {
                return eighths;
            }
            if (plan.meetsBy(now, k, -eighths)) {
                return -eighths;
            }
        }
        return NO_PIN_MEETS;
    }

    public int tight(int s, int wear) {
        if (!taken(isSeam(s), wear >= 0 && wear <= MOST_WEAR && now.day + wear <= LAST_DAY)) {
            return NONE;
        }
        int givesMore = plan.gives(s, now.wear + wear) - plan.gives(s, now.wear);
        return plan.bodyOn(plan.cloth.at[s], now.day + wear) - givesMore;
    }

    // ---- months

    public int month(int seed) {
        if (!taken(isSuit(), isSeed(seed))) {
            return NONE;
        }
        plan.feasts.seed = seed;
        return plan.sumAmiss(now, plan.feasts.keptByDraws(kept(plan.wedding)), STANDING);
    }

    public int months(int seed, int n) {
        if (!taken(isSuit(), isSeed(seed) && n >= 1 && n <= MOST_MONTHS)) {
            return NONE;
        }
        plan.feasts.seed = seed;
        int fitting = 0;
        for (int i = 0; i < n; i++) {
            if (plan.wrongSeams(now, plan.feasts.keptByDraws(kept(plan.wedding)), STANDING) == 0) {
                fitting++;
            }
        }
        return fitting;
    }

    // ---- acts

    public int pin(int s, int eighths) {
        if (!pinTaken(s, eighths)) {
            return NONE;
        }
        keepForUndo();
        now.pinAt(plan.cloth, s, eighths);
        return plan.sizeOf(now, s);
    }

    public int days(int n) {
        if (!daysTaken(n)) {
            return NONE;
        }
        keepForUndo();
        now.day += n;
        return now.day;
    }

    public int wear(int n) {
        if (!daysTaken(n)) {
            return NONE;
        }
        keepForUndo();
        now.day += n;
        now.wear += n;
        return now.wear;
    }

    public int before() {
        if (!taken(isSuit(), true)) {
            return NONE;
        }
        return acts.count == 0 ? NOTHING : sumBefore();
    }

    public int better() {
        if (!taken(isSuit(), true)) {
            return NONE;
        }
        if (acts.count == 0) {
            return NOTHING;
        }
        return plan.sumAmiss(now, kept(now.day), STANDING) < sumBefore() ? 1 : 0;
    }

    public boolean undo() {
        if (acts.count == 0) {
            refusal = THERE_IS_NONE;
            return false;
        }
        now.take(acts.latest());
        acts.dropLatest();
        forgetSearches();
        refusal = FINE;
        return true;
    }

    public int mark() {
        if (!taken(isSuit(), true)) {
            return NONE;
        }
        if (acts.marked >= MARKS) {
            refusal = NO_ROOM;
            return NONE;
        }
        return acts.markAs(now);
    }

    public boolean back(int mark) {
        if (!taken(mark >= 0 && mark < acts.marked, true)) {
            return false;
        }
        now.take(acts.marks[mark]);
        acts.count = 0;
        forgetSearches();
        return true;
    }

    // ---- what is told

    public int led(int i) throws NoSuchElementException {
        int bits = plan.wrongSeams(now, kept(now.day), STANDING);
        int ahead = 0;
        for (int s = 0; s < plan.cloth.seams; s++) {
            if ((bits >> s & 1) == 1) {
                if (ahead == i) {
                    return s;
                }
                ahead++;
            }
        }
        throw new NoSuchElementException();
    }

    public int size(int what) {
        switch (what) {
            case 0:
                return plan.within;
            case 1:
                return plan.wedding;
            case 2:
                return plan.measures.count;
            case 3:
                return plan.cloth.seams;
            case 4:
                return plan.cloth.pulls;
            case 5:
                return plan.cloth.stripes;
            case 6:
                return plan.feasts.count;
            case 7:
                return plan.measures.readings;
            case 8:
                return now.day;
            case 9:
                return now.wear;
            case 10:
                return acts.count;
            case 11:
                return acts.marked;
            case 12:
                return fed;
            default:
                return NONE;
        }
    }

    public int trouble() {
        return refusal;
    }

    // ---- what the calls share

    private void tapeOn(int number) {
        for (int shift = 24; shift >= 0 && fed < TAPE; shift -= 8) {
            tape[fed] = (byte) (number >> shift);
            fed++;
        }
    }

    /** Keeps why a call is refused, of two reasons the lesser number; true if it isn't. */
    private boolean taken(boolean there, boolean inBounds) {
        refusal = !there ? NO_SUCH : !inBounds ? NUMBER : FINE;
        return refusal == FINE;
    }

    private boolean pinTaken(int s, int eighths) {
        if (!taken(isSeam(s), eighths >= -FARTHEST_PIN && eighths <= FARTHEST_PIN && eighths != 0)) {
            return false;
        }
        if (!Cloth.allowsBy(plan.cloth.kinds[s], eighths, now.left[s])) {
            refusal = NOT_SO;
        }
        return refusal == FINE;
    }

    private boolean daysTaken(int n) {
        if (!taken(isSuit(), n >= 1 && n <= MOST_DAYS)) {
            return false;
        }
        if (now.day + n > LAST_DAY) {
            refusal = NO_ROOM;
        }
        return refusal == FINE;
    }

    private boolean bestTaken(int day, boolean allPoses) {
        if (!taken(isSuit(), isDay(day))) {
            return false;
        }
        pins.lay(plan, now, kept(day));
        pins.findBest(allPoses);
        return true;
    }

    private boolean isSuit() {
        return plan.cloth.seams > 0;
    }

    private boolean isSeam(int s) {
        return s >= 0 && s < plan.cloth.seams;
    }

    private boolean isMeasure(int m) {
        return m >= 0 && m < plan.measures.count;
    }

    private boolean isStripe(int k) {
        return k >= 0 && k < plan.cloth.stripes;
    }

    private static boolean isDay(int day) {
        return day >= 0 && day <= LAST_DAY;
    }

    private static boolean isPose(int pose) {
        return pose >= 0 && pose < POSES;
    }

    private static boolean isSeed(int seed) {
        return seed >= 0 && seed <= LAST_SEED;
    }

    /** How many feasts there are up to a day, if all are kept: all that a day does to a body. */
    private int kept(int day) {
        return plan.feasts.upTo(day);
    }

    private int worstSeam(int feasts) {
        int worstOne = 0;
        int most = NONE;
        for (int s = 0; s < plan.cloth.seams; s++) {
            int here = plan.mostAmiss(now, s, feasts);
            if (here > most) {
                most = here;
                worstOne = s;
            }
        }
        return worstOne;
    }

    private int sumBefore() {
        Fitting then = acts.latest();
        return plan.sumAmiss(then, kept(then.day), STANDING);
    }

    private void keepForUndo() {
        acts.keep(now);
        forgetSearches();
    }

    private void forgetSearches() {
        pinsFor = NONE;
        eyeFor = NONE;
    }

    private void searchPins(int feasts) {
        if (pinsFor != feasts) {
            pins.lay(plan, now, feasts);
            pins.findFewest();
            pinsFor = feasts;
        }
    }

    private void searchOrders(int feasts) {
        if (eyeFor != feasts) {
            eye.lay(plan, now, feasts);
            eye.findOrder();
            eyeFor = feasts;
        }
    }

    private static long commonDivisor(long a, long b) {
        long greater = a;
        long lesser = b;
        for (int step = 0; step < 200 && lesser != 0; step++) {
            long rest = greater % lesser;
            greater = lesser;
            lesser = rest;
        }
        return greater;
    }

    /** The measures of a body as told, and what was read of them. */
    private static final class Measures {
        int count;
        final int[] told = new int[MEASURES];
        final int[] holds = new int[MEASURES];
        final int[] grows = new int[MEASURES];
        int readings;
        final int[] readOf = new int[READINGS];
        final int[] readOn = new int[READINGS];
        final int[] readAs = new int[READINGS];

        void clear() {
            count = 0;
            readings = 0;
        }

        int grownBy(int m, int feasts) {
            return grows[m] * feasts;
        }

        int bodyBy(int m, int feasts) {
            return told[m] + grownBy(m, feasts);
        }

        int measuredBy(int m, int feasts) {
            return bodyBy(m, feasts) - holds[m];
        }
    }

    /** Feasts by their days, and how many of them are kept, by chances or by draws. */
    private static final class Feasts {
        int count;
        final int[] days = new int[FEASTS];
        final int[] chances = new int[FEASTS];
        // In how many of all the ways 0, 1, .. feasts are kept; each feast goes in a hundred ways.
        final long[] weights = new long[FEASTS + 1];
        long ways;
        int seed;

        static int draw(int seed) {
            return (75 * seed + 74) % (LAST_SEED + 1);
        }

        void clear() {
            count = 0;
        }

        int upTo(int day) {
            int feasts = 0;
            while (feasts < count && days[feasts] <= day) {
                feasts++;
            }
            return feasts;
        }

        void weigh(int feasts) {
            Arrays.fill(weights, 0);
            weights[0] = 1;
            ways = 1;
            for (int f = 0; f < feasts && f < count; f++) {
                for (int k = f + 1; k > 0; k--) {
                    weights[k] = weights[k] * (HUNDRED - chances[f]) + weights[k - 1] * chances[f];
                }
                weights[0] *= HUNDRED - chances[f];
                ways *= HUNDRED;
            }
        }

        /** How many feasts kept must be reckoned with, to be right so many times in a hundred. */
        int keptBy(int percent, int feasts) {
            long right = weights[0];
            int k = 0;
            while (k < feasts && right * HUNDRED < ways * percent) {
                k++;
                right += weights[k];
            }
            return k;
        }

        int keptByDraws(int feasts) {
            int kept = 0;
            for (int f = 0; f < feasts && f < count; f++) {
                seed = draw(seed);
                if (seed % HUNDRED < chances[f]) {
                    kept++;
                }
            }
            return kept;
        }
    }

    /** Seams as told, how they pull at one another, and stripes. */
    private static final class Cloth {
        int seams;
        final int[] kinds = new int[SEAMS];
        final int[] at = new int[SEAMS];
        final int[] sizes = new int[SEAMS];
        final int[] left = new int[SEAMS];
        int pulls;
        // What a PIN by 1 at a seam does to the SIZE of each seam: 1 to its own, less to those at which it pulls.
        final int[] effects = new int[SEAMS * SEAMS];
        int stripes;
        final int[] firsts = new int[STRIPES];
        final int[] seconds = new int[STRIPES];
        final int[] lies = new int[STRIPES];

        void clear() {
            seams = 0;
            pulls = 0;
            stripes = 0;
            Arrays.fill(effects, 0);
            for (int s = 0; s < SEAMS; s++) {
                effects[s * SEAMS + s] = 1;
            }
        }

        int pullAt(int s, int other) {
            return -effects[s * SEAMS + other];
        }

        /** The seams whose SIZE a PIN at one changes at once, as bits. */
        int touchedBy(int s) {
            int bits = 0;
            for (int other = 0; other < seams; other++) {
                if (effects[s * SEAMS + other] != 0) {
                    bits |= 1 << other;
                }
            }
            return bits;
        }

        int reachOf(int s) {
            int bits = 1 << s;
            // Each pass goes on by one pull at least, so that as many passes as seams are enough.
            for (int pass = 0; pass < seams; pass++) {
                for (int from = 0; from < seams; from++) {
                    if ((bits >> from & 1) == 1) {
                        bits |= touchedBy(from);
                    }
                }
            }
            return bits;
        }

        boolean areStriped(int s, int other) {
            for (int k = 0; k < stripes; k++) {
                if (firsts[k] == s && seconds[k] == other || firsts[k] == other && seconds[k] == s) {
                    return true;
                }
            }
            return false;
        }

        /** Whether a PIN can be at a seam of a KIND where so much is left. */
        static boolean allowsBy(int kind, int eighths, int leftThere) {
            return eighths <= leftThere && (kind != STRIPED || eighths % 2 == 0);
        }
    }

    /** What acts change: SIZES without what they GIVE, what is left, the day and the WEAR. */
    private static final class Fitting {
        final int[] sizes = new int[SEAMS];
        final int[] left = new int[SEAMS];
        int day;
        int wear;

        void begin(Cloth cloth) {
            System.arraycopy(cloth.sizes, 0, sizes, 0, SEAMS);
            System.arraycopy(cloth.left, 0, left, 0, SEAMS);
            day = 0;
            wear = 0;
        }

        void take(Fitting other) {
            System.arraycopy(other.sizes, 0, sizes, 0, SEAMS);
            System.arraycopy(other.left, 0, left, 0, SEAMS);
            day = other.day;
            wear = other.wear;
        }

        void pinAt(Cloth cloth, int s, int eighths) {
            for (int other = 0; other < cloth.seams; other++) {
                sizes[other] += cloth.effects[s * SEAMS + other] * eighths;
            }
            left[s] -= eighths;
        }
    }

    /** A SUIT as told, and what it is on a body that has kept so many feasts. */
    private static final class Plan {
        int within;
        int wedding;
        final Measures measures = new Measures();
        final Feasts feasts = new Feasts();
        final Cloth cloth = new Cloth();

        void clear() {
            within = 0;
            wedding = 0;
            measures.clear();
            feasts.clear();
            cloth.clear();
        }

        int bodyOn(int m, int day) {
            return measures.bodyBy(m, feasts.upTo(day));
        }

        int measuredOn(int m, int day) {
            return measures.measuredBy(m, feasts.upTo(day));
        }

        int gives(int s, int wear) {
            return cloth.kinds[s] == WORN ? wear / WEAR_THAT_GIVES : 0;
        }

        int sizeOf(Fitting fitting, int s) {
            return fitting.sizes[s] + gives(s, fitting.wear);
        }

        static int needsMore(int kind, int pose) {
            if (pose == ARMS_UP && kind == PULLING) {
                return 3;
            }
            return pose == SITTING && kind == WORN ? 2 : 0;
        }

        int amissOf(Fitting fitting, int s, int kept, int pose) {
            return sizeOf(fitting, s) - measures.bodyBy(cloth.at[s], kept) - needsMore(cloth.kinds[s], pose);
        }

        int sumAmiss(Fitting fitting, int kept, int pose) {
            int sum = 0;
            for (int s = 0; s < cloth.seams; s++) {
                sum += Math.abs(amissOf(fitting, s, kept, pose));
            }
            return sum;
        }

        /** Seams that are AMISS by more than within, as bits. */
        int wrongSeams(Fitting fitting, int kept, int pose) {
            int bits = 0;
            for (int s = 0; s < cloth.seams; s++) {
                if (Math.abs(amissOf(fitting, s, kept, pose)) > within) {
                    bits |= 1 << s;
                }
            }
            return bits;
        }

        int worstPoseOf(Fitting fitting, int s, int kept) {
            int worstOne = STANDING;
            for (int pose = 1; pose < POSES; pose++) {
                if (Math.abs(amissOf(fitting, s, kept, pose)) > Math.abs(amissOf(fitting, s, kept, worstOne))) {
                    worstOne = pose;
                }
            }
            return worstOne;
        }

        int mostAmiss(Fitting fitting, int s, int kept) {
            return Math.abs(amissOf(fitting, s, kept, worstPoseOf(fitting, s, kept)));
        }

        int lacking(Fitting fitting, int s, int kept) {
            return Math.max(0, measures.bodyBy(cloth.at[s], kept) - sizeOf(fitting, s));
        }

        /** In how many of the ways that were weighed a body is no more than so many eighths at a seam. */
        long likely(int s, int eighths, int kept) {
            long sum = 0;
            for (int k = 0; k <= kept; k++) {
                if (measures.bodyBy(cloth.at[s], k) <= eighths) {
                    sum += feasts.weights[k];
                }
            }
            return sum;
        }

        private int mostGrownBetween(int day, int later) {
            int kept = feasts.upTo(later) - feasts.upTo(day);
            int most = 0;
            for (int s = 0; s < cloth.seams; s++) {
                most = Math.max(most, measures.grownBy(cloth.at[s], kept));
            }
            return most;
        }

        /** The visit behind one on a day; NONE if the wedding comes ahead of it. */
        int visitBehind(int day) {
            for (int later = day + 1; later <= wedding; later++) {
                if (mostGrownBetween(day, later) > within) {
                    return later;
                }
            }
            return NONE;
        }

        int visitsFrom(int day) {
            int count = 0;
            int visit = day;
            while (visit != NONE && visit <= wedding && count <= LAST_DAY) {
                count++;
                visit = visitBehind(visit);
            }
            return count;
        }

        /** What is AMISS together on the wedding if all was cut to what is MEASURED on a day. */
        int sumIfCut(int day) {
            int kept = feasts.upTo(day);
            int keptInAll = feasts.upTo(wedding);
            int sum = 0;
            for (int s = 0; s < cloth.seams; s++) {
                int m = cloth.at[s];
                sum += Math.abs(measures.measuredBy(m, kept) - measures.bodyBy(m, keptInAll));
            }
            return sum;
        }

        int bestCutDay() {
            int bestDay = 0;
            int least = sumIfCut(0);
            for (int day = 1; day <= wedding; day++) {
                int sum = sumIfCut(day);
                if (sum < least) {
                    least = sum;
                    bestDay = day;
                }
            }
            return bestDay;
        }

        /** The least that a measure as told can be by one that was READ. */
        private int leastBy(int r) {
            return measures.readAs[r] - measures.grownBy(measures.readOf[r], feasts.upTo(measures.readOn[r]));
        }

        /** The greatest of the least that it can be, or the least of the greatest; NONE if never READ. */
        int boundOf(int m, boolean most) {
            int bound = NONE;
            for (int r = 0; r < measures.readings; r++) {
                if (measures.readOf[r] == m) {
                    int here = most ? leastBy(r) + measures.holds[m] : leastBy(r);
                    if (bound == NONE || (most ? here < bound : here > bound)) {
                        bound = here;
                    }
                }
            }
            return bound;
        }

        /** How far apart TRULY leaves the least and the greatest; NONE if there is none such. */
        int roomOf(int m) {
            int least = boundOf(m, false);
            return least == NONE ? NEVER_READ : Math.max(NONE, boundOf(m, true) - least);
        }

        boolean canBeRead(int r) {
            int m = measures.readOf[r];
            return leastBy(r) <= measures.told[m] && measures.told[m] <= leastBy(r) + measures.holds[m];
        }

        /** How a STRIPE lies behind a PIN at its first seam; 0 eighths: how it lies as it is. */
        int liesBy(Fitting fitting, int k, int eighths) {
            int first = cloth.firsts[k];
            int second = cloth.seconds[k];
            int apart = sizeOf(fitting, first) - sizeOf(fitting, second);
            return Math.floorMod(apart + eighths * (1 + cloth.pullAt(first, second)), REPEAT);
        }

        boolean meetsBy(Fitting fitting, int k, int eighths) {
            int first = cloth.firsts[k];
            return Cloth.allowsBy(cloth.kinds[first], eighths, fitting.left[first])
                && liesBy(fitting, k, eighths) == cloth.lies[k];
        }
    }

    /** The TOKENS of a text, one at a time. */
    private static final class Tokens {
        private byte[] text = new byte[0];
        private int end;
        private int behind;
        int at;
        int sort;
        // What a WHOLE is.
        int whole;
        // The bytes of a WORD as one number: there are eight of them at most.
        long word;

        void open(byte[] bytes, int n) {
            text = bytes;
            end = Math.min(n, bytes.length);
            behind = 0;
            advance();
        }

        /** Goes on to the TOKEN behind this one. */
        void advance() {
            at = behind;
            while (at < end && text[at] == ' ') {
                at++;
            }
            sort = at < end ? sortOf(text[at]) : END;
            behind = Math.min(at + 1, end);
            word = 0;
            whole = 0;
            if (sort == WORD || sort == WHOLE) {
                behind = at;
                while (behind < end && sortOf(text[behind]) == sort) {
                    word = word << 8 | text[behind];
                    whole = whole * 10 + text[behind] - '0';
                    behind++;
                }
                // More signs that stand together than a TOKEN has are none, from the first on.
                if (behind - at > (sort == WORD ? WORD_LETTERS : WHOLE_DIGITS)) {
                    sort = NO_TOKEN;
                }
            }
        }

        private static int sortOf(byte sign) {
            if (sign >= 'a' && sign <= 'z') {
                return WORD;
            }
            if (sign >= '0' && sign <= '9') {
                return WHOLE;
            }
            return sign == ';' ? PARTING : NO_TOKEN;
        }
    }

    /**
     * Reads a SUIT from left to right up to its first FAULT; each part answers whether there was none. What a TOKEN
     * tells is looked at before the text goes on behind it, as its FAULTS lie at it.
     */
    private static final class Reader {
        private final Tokens tokens = new Tokens();
        private final long[] measureNames = new long[MEASURES];
        private final long[] seamNames = new long[SEAMS];
        // A draft, so that a FAULT leaves the SUIT that there is as it was.
        private Plan plan = new Plan();
        private boolean begun;
        // What the TOKEN tells: a WHOLE, a KIND, or which one a NAME is.
        private int told;
        int found;
        int place = NONE;

        void readAll(byte[] text, int n) {
            plan.clear();
            begun = false;
            found = 0;
            place = NONE;
            tokens.open(text, n);
            boolean more = true;
            for (int lines = 0; lines <= TAPE && more; lines++) {
                more = readLine() && isParted();
            }
            if (found == 0 && plan.cloth.seams == 0) {
                spoilt(LACKS);
            }
        }

        /** Gives what was read, and takes one that isn't needed any more for the next. */
        Plan handOver(Plan old) {
            Plan read = plan;
            plan = old;
            return read;
        }

        private boolean spoilt(int number) {
            found = number;
            place = tokens.at;
            return false;
        }

        /** Whether another LINE must follow. */
        private boolean isParted() {
            if (tokens.sort == END) {
                return false;
            }
            if (tokens.sort != PARTING) {
                return spoilt(FORM);
            }
            tokens.advance();
            return true;
        }

        private boolean readLine() {
            int line = lineSort();
            if (line == NONE) {
                return spoilt(FORM);
            }
            if (line == SUIT_LINE) {
                return begun ? spoilt(AGAIN) : readSuit();
            }
            if (!begun) {
                return spoilt(LACKS);
            }
            if (!hasRoom(line)) {
                return spoilt(MANY);
            }
            tokens.advance();
            switch (line) {
                case MEASURE_LINE:
                    return readMeasure();
                case SEAM_LINE:
                    return readSeam();
                case PULL_LINE:
                    return readPull();
                case STRIPE_LINE:
                    return readStripe();
                case FEAST_LINE:
                    return readFeast();
                default:
                    return readReading();
            }
        }

        /** Which sort of LINE a TOKEN begins; NONE if none. */
        private int lineSort() {
            if (tokens.sort != WORD) {
                return NONE;
            }
            if (tokens.word == SUIT_WORD) {
                return SUIT_LINE;
            }
            if (tokens.word == MEASURE_WORD) {
                return MEASURE_LINE;
            }
            if (tokens.word == SEAM_WORD) {
                return SEAM_LINE;
            }
            if (tokens.word == PULL_WORD) {
                return PULL_LINE;
            }
            if (tokens.word == STRIPE_WORD) {
                return STRIPE_LINE;
            }
            if (tokens.word == FEAST_WORD) {
                return FEAST_LINE;
            }
            return tokens.word == READ_WORD ? READ_LINE : NONE;
        }

        private boolean hasRoom(int line) {
            switch (line) {
                case MEASURE_LINE:
                    return plan.measures.count < MEASURES;
                case SEAM_LINE:
                    return plan.cloth.seams < SEAMS;
                case PULL_LINE:
                    return plan.cloth.pulls < PULLS;
                case STRIPE_LINE:
                    return plan.cloth.stripes < STRIPES;
                case FEAST_LINE:
                    return plan.feasts.count < FEASTS;
                default:
                    return plan.measures.readings < READINGS;
            }
        }

        private boolean readSuit() {
            tokens.advance();
            begun = true;
            if (!(key(WITHIN_WORD) && whole(0, 9))) {
                return false;
            }
            plan.within = told;
            tokens.advance();
            if (!(key(WEDDING_WORD) && whole(1, LAST_DAY))) {
                return false;
            }
            plan.wedding = told;
            tokens.advance();
            return true;
        }

        private boolean readMeasure() {
            Measures measures = plan.measures;
            int m = measures.count;
            if (!(newName(measureNames, m)
                && key(BODY_WORD) && whole(40, 400) && kept(measures.told, m)
                && key(HOLDS_WORD) && whole(0, 20) && kept(measures.holds, m)
                && key(GROWS_WORD) && whole(0, 9) && kept(measures.grows, m))) {
                return false;
            }
            measures.count++;
            return true;
        }

        private boolean readSeam() {
            Cloth cloth = plan.cloth;
            int s = cloth.seams;
            if (!(newName(seamNames, s) && kind() && kept(cloth.kinds, s)
                && key(AT_WORD) && oldName(measureNames, plan.measures.count) && kept(cloth.at, s)
                && key(SIZE_WORD) && whole(20, 500) && kept(cloth.sizes, s)
                && key(LEFT_WORD) && whole(0, 20) && kept(cloth.left, s))) {
                return false;
            }
            cloth.seams++;
            return true;
        }

        private boolean readPull() {
            Cloth cloth = plan.cloth;
            if (!oldName(seamNames, cloth.seams)) {
                return false;
            }
            int first = told;
            tokens.advance();
            if (!oldName(seamNames, cloth.seams)) {
                return false;
            }
            int second = told;
            if (second == first || cloth.pullAt(first, second) != 0) {
                return spoilt(AGAIN);
            }
            tokens.advance();
            if (!whole(1, 4)) {
                return false;
            }
            cloth.effects[first * SEAMS + second] = -told;
            cloth.pulls++;
            tokens.advance();
            return true;
        }

        private boolean readStripe() {
            Cloth cloth = plan.cloth;
            int k = cloth.stripes;
            if (!(oldName(seamNames, cloth.seams) && kept(cloth.firsts, k) && oldName(seamNames, cloth.seams))) {
                return false;
            }
            int first = cloth.firsts[k];
            if (told == first || cloth.areStriped(first, told)) {
                return spoilt(AGAIN);
            }
            if (!(kept(cloth.seconds, k) && whole(0, REPEAT - 1) && kept(cloth.lies, k))) {
                return false;
            }
            cloth.stripes++;
            return true;
        }

        private boolean readFeast() {
            Feasts feasts = plan.feasts;
            int f = feasts.count;
            int soonest = f == 0 ? 0 : feasts.days[f - 1] + 1;
            if (!(whole(soonest, LAST_DAY) && kept(feasts.days, f)
                && key(CHANCE_WORD) && whole(0, HUNDRED) && kept(feasts.chances, f))) {
                return false;
            }
            feasts.count++;
            return true;
        }

        private boolean readReading() {
            Measures measures = plan.measures;
            int r = measures.readings;
            if (!(oldName(measureNames, measures.count) && kept(measures.readOf, r)
                && whole(0, LAST_DAY) && kept(measures.readOn, r)
                && whole(60, 500) && kept(measures.readAs, r))) {
                return false;
            }
            measures.readings++;
            return true;
        }

        /** Keeps what the TOKEN tells, and goes on behind it. */
        private boolean kept(int[] row, int i) {
            if (i >= 0 && i < row.length) {
                row[i] = told;
            }
            tokens.advance();
            return true;
        }

        /** A WORD that must stand there; goes on behind it. */
        private boolean key(long word) {
            if (tokens.sort != WORD || tokens.word != word) {
                return spoilt(FORM);
            }
            tokens.advance();
            return true;
        }

        private boolean whole(int least, int most) {
            if (tokens.sort != WHOLE) {
                return spoilt(FORM);
            }
            told = tokens.whole;
            return told >= least && told <= most || spoilt(BOUNDS);
        }

        private boolean kind() {
            if (tokens.sort != WORD) {
                return spoilt(FORM);
            }
            if (tokens.word == PLAIN_WORD) {
                told = PLAIN;
            } else if (tokens.word == STRIPED_WORD) {
                told = STRIPED;
            } else if (tokens.word == PULLING_WORD) {
                told = PULLING;
            } else if (tokens.word == WORN_WORD) {
                told = WORN;
            } else {
                return spoilt(FORM);
            }
            return true;
        }

        private boolean isName() {
            return tokens.sort == WORD && lineSort() == NONE;
        }

        /** A NAME that isn't told yet; goes on behind it. */
        private boolean newName(long[] names, int i) {
            if (!isName()) {
                return spoilt(FORM);
            }
            if (indexIn(measureNames, plan.measures.count) != NONE || indexIn(seamNames, plan.cloth.seams) != NONE) {
                return spoilt(AGAIN);
            }
            if (i >= 0 && i < names.length) {
                names[i] = tokens.word;
            }
            tokens.advance();
            return true;
        }

        private boolean oldName(long[] names, int count) {
            if (!isName()) {
                return spoilt(FORM);
            }
            told = indexIn(names, count);
            return told != NONE || spoilt(UNTOLD);
        }

        private int indexIn(long[] names, int count) {
            for (int i = 0; i < count && i < names.length; i++) {
                if (names[i] == tokens.word) {
                    return i;
                }
            }
            return NONE;
        }
    }

    /** What is AMISS standing and what is left, laid out to try pins on without touching the suit. */
    private static final class Board {
        int seams;
        int within;
        final int[] kinds = new int[SEAMS];
        final int[] effects = new int[SEAMS * SEAMS];
        final int[] touched = new int[SEAMS];
        final int[] off = new int[SEAMS];
        final int[] left = new int[SEAMS];

        void lay(Plan plan, Fitting now, int kept) {
            seams = plan.cloth.seams;
            within = plan.within;
            System.arraycopy(plan.cloth.kinds, 0, kinds, 0, SEAMS);
            System.arraycopy(plan.cloth.effects, 0, effects, 0, SEAMS * SEAMS);
            System.arraycopy(now.left, 0, left, 0, SEAMS);
            for (int s = 0; s < seams; s++) {
                touched[s] = plan.cloth.touchedBy(s);
                off[s] = plan.amissOf(now, s, kept, STANDING);
            }
        }

        boolean allows(int s, int eighths) {
            return Cloth.allowsBy(kinds[s], eighths, left[s]);
        }

        /** Whether one of two seams pulls at the other. */
        boolean isPulled(int s, int other) {
            return effects[s * SEAMS + other] != 0 || effects[other * SEAMS + s] != 0;
        }

        /** Puts a pin; put again by as much the other way, all is as it was. */
        void put(int s, int eighths) {
            for (int other = 0; other < seams; other++) {
                off[other] += effects[s * SEAMS + other] * eighths;
            }
            left[s] -= eighths;
        }

        int wrongOnes() {
            int bits = 0;
            for (int s = 0; s < seams; s++) {
                if (Math.abs(off[s]) > within) {
                    bits |= 1 << s;
                }
            }
            return bits;
        }

        int sumIn(int pose) {
            int sum = 0;
            for (int s = 0; s < seams; s++) {
                sum += Math.abs(off[s] - Plan.needsMore(kinds[s], pose));
            }
            return sum;
        }

        int greatestSum() {
            int most = 0;
            for (int pose = 0; pose < POSES; pose++) {
                most = Math.max(most, sumIn(pose));
            }
            return most;
        }
    }

    /** The BEST PIN and the FEWEST. */
    private static final class Pins {
        private final Board board = new Board();
        // The PIN at each seam by the FEWEST.
        final int[] row = new int[SEAMS];
        int fewestFound = NOTHING;
        int bestSeam = NOTHING;
        int bestEighths;
        int bestSum;

        void lay(Plan plan, Fitting now, int kept) {
            board.lay(plan, now, kept);
        }

        /** What is AMISS together behind a pin, standing or in the POSE in which it is most. */
        int sumBehind(int s, int eighths, boolean allPoses) {
            board.put(s, eighths);
            int sum = allPoses ? board.greatestSum() : board.sumIn(STANDING);
            board.put(s, -eighths);
            return sum;
        }

        void findBest(boolean allPoses) {
            bestSeam = NOTHING;
            bestEighths = 0;
            bestSum = allPoses ? board.greatestSum() : board.sumIn(STANDING);
            for (int s = 0; s < board.seams; s++) {
                for (int eighths = -FARTHEST_PIN; eighths <= FARTHEST_PIN; eighths++) {
                    if (eighths != 0 && board.allows(s, eighths)) {
                        tryAsBest(s, eighths, sumBehind(s, eighths, allPoses));
                    }
                }
            }
        }

        private void tryAsBest(int s, int eighths, int sum) {
            if (sum < bestSum) {
                bestSeam = s;
                bestEighths = eighths;
                bestSum = sum;
            }
        }

        void findFewest() {
            Arrays.fill(row, 0);
            fewestFound = NOTHING;
            for (int count = 0; count <= MOST_PINS && fewestFound == NOTHING; count++) {
                if (rowFrom(0, count)) {
                    fewestFound = count;
                }
            }
        }

        /** Finds the first row of just so many pins at seams from one on; so deep at most as there are seams. */
        private boolean rowFrom(int s, int count) {
            int wrongOnes = board.wrongOnes();
            if (count == 0) {
                return wrongOnes == 0;
            }
            if (s < 0 || s >= board.seams) {
                return false;
            }
            if (count == 1) {
                return lastFrom(s, wrongOnes);
            }
            boolean isOfUse = canTouch(wrongOnes & ~board.touched[s], s + 1, count - 1);
            for (int eighths = -FARTHEST_PIN; eighths <= FARTHEST_PIN; eighths++) {
                if (eighths == 0 ? rowFrom(s + 1, count) : isOfUse && rowBehind(s, eighths, count)) {
                    return true;
                }
            }
            return false;
        }

        /** Whether so many pins at seams from one on touch all of some; so deep at most as there are seams. */
        private boolean canTouch(int bits, int s, int count) {
            if (bits == 0) {
                return true;
            }
            if (count <= 0 || s < 0 || s >= board.seams) {
                return false;
            }
            return canTouch(bits & ~board.touched[s], s + 1, count - 1) || canTouch(bits, s + 1, count);
        }

        private boolean rowBehind(int s, int eighths, int count) {
            if (!board.allows(s, eighths)) {
                return false;
            }
            board.put(s, eighths);
            boolean isFound = rowFrom(s + 1, count - 1);
            board.put(s, -eighths);
            if (isFound) {
                row[s] = eighths;
            }
            return isFound;
        }

        /**
         * The last pin isn't tried but reckoned, as it would be tried too often. A pin in at a seam comes ahead of all
         * at later ones, a pin out behind all of them.
         */
        private boolean lastFrom(int s, int wrongOnes) {
            for (int at = s; at < board.seams; at++) {
                if ((wrongOnes & ~board.touched[at]) == 0 && lastAt(at, -FARTHEST_PIN, -1)) {
                    return true;
                }
            }
            for (int at = board.seams - 1; at >= s; at--) {
                if ((wrongOnes & ~board.touched[at]) == 0 && lastAt(at, 1, FARTHEST_PIN)) {
                    return true;
                }
            }
            return false;
        }

        /** The least pin at a seam, of those from one to another, by which all seams are within. */
        private boolean lastAt(int s, int from, int to) {
            int least = from;
            int most = Math.min(to, board.left[s]);
            for (int other = 0; other < board.seams; other++) {
                int effect = board.effects[s * SEAMS + other];
                int steps = Math.abs(effect);
                if (steps != 0) {
                    int off = effect < 0 ? -board.off[other] : board.off[other];
                    least = Math.max(least, -Math.floorDiv(board.within + off, steps));
                    most = Math.min(most, Math.floorDiv(board.within - off, steps));
                }
            }
            if (board.kinds[s] == STRIPED && least % 2 != 0) {
                least++;
            }
            if (least > most) {
                return false;
            }
            row[s] = least;
            return true;
        }
    }

    /** Pinning BY EYE, round and round. */
    private static final class Eye {
        private final Board board = new Board();
        private final int[] offAtFirst = new int[SEAMS];
        private final int[] leftAtFirst = new int[SEAMS];
        private final int[] order = new int[SEAMS];
        // The PIN at each seam in the latest round.
        private final int[] pinned = new int[SEAMS];
        final int[] bestOrder = new int[SEAMS];
        int bestRounds = NOTHING;

        void lay(Plan plan, Fitting now, int kept) {
            board.lay(plan, now, kept);
            System.arraycopy(board.off, 0, offAtFirst, 0, SEAMS);
            System.arraycopy(board.left, 0, leftAtFirst, 0, SEAMS);
        }

        private void layAgain() {
            System.arraycopy(offAtFirst, 0, board.off, 0, SEAMS);
            System.arraycopy(leftAtFirst, 0, board.left, 0, SEAMS);
        }

        int roundsInOrder() {
            firstOrder();
            return roundsUpTo(ROUNDS);
        }

        void findOrder() {
            firstOrder();
            bestRounds = NOTHING;
            int limit = ROUNDS;
            for (int tries = 0; tries < ALL_ORDERS; tries++) {
                int rounds = isLikeEarlier() ? NOTHING : roundsUpTo(limit);
                if (rounds >= 0) {
                    bestRounds = rounds;
                    System.arraycopy(order, 0, bestOrder, 0, SEAMS);
                    limit = rounds - 1;
                }
                // Whether it fits at once is the same by all orders: nothing is sooner than one round.
                if (limit < 1 || !nextOrder()) {
                    return;
                }
            }
        }

        /** Whether two side by side that don't pull at one another could change places: that order came earlier. */
        private boolean isLikeEarlier() {
            for (int i = 1; i < board.seams; i++) {
                if (order[i - 1] > order[i] && !board.isPulled(order[i - 1], order[i])) {
                    return true;
                }
            }
            return false;
        }

        private void firstOrder() {
            for (int i = 0; i < SEAMS; i++) {
                order[i] = i;
            }
        }

        /** Goes on to the next order by seams; false behind the last. */
        private boolean nextOrder() {
            int turn = board.seams - 2;
            while (turn >= 0 && order[turn] > order[turn + 1]) {
                turn--;
            }
            if (turn < 0) {
                return false;
            }
            int other = board.seams - 1;
            while (other > turn && order[other] < order[turn]) {
                other--;
            }
            swap(turn, other);
            int low = turn + 1;
            int high = board.seams - 1;
            while (low < high) {
                swap(low, high);
                low++;
                high--;
            }
            return true;
        }

        private void swap(int i, int j) {
            int old = order[i];
            order[i] = order[j];
            order[j] = old;
        }

        private int roundsUpTo(int limit) {
            layAgain();
            Arrays.fill(pinned, 0);
            for (int rounds = 0; rounds <= limit; rounds++) {
                if (board.wrongOnes() == 0) {
                    return rounds;
                }
                if (rounds < limit && pinsAlike() && goesOnAlike()) {
                    return NOTHING;
                }
            }
            return NOTHING;
        }

        /** Pins a round; whether all pins are those of the round ahead of it (of the first: there are none). */
        private boolean pinsAlike() {
            boolean alike = true;
            for (int i = 0; i < board.seams; i++) {
                int s = order[i];
                int eighths = byEye(s);
                if (eighths != pinned[s]) {
                    pinned[s] = eighths;
                    alike = false;
                }
                if (eighths != 0) {
                    board.put(s, eighths);
                }
            }
            return alike;
        }

        /**
         * Behind two rounds that are alike: whether all others will be, too, so that what is wrong stays so. What is
         * pinned in alone is not bound by what is left. A seam that no round changes is pinned as before; one that each
         * makes too large by more than a pin takes away is pinned as far as it goes, and is never small enough again.
         */
        private boolean goesOnAlike() {
            for (int s = 0; s < board.seams; s++) {
                int more = 0;
                for (int other = 0; other < board.seams; other++) {
                    more += board.effects[other * SEAMS + s] * pinned[other];
                }
                boolean staysAsItIs = more == 0 && pinned[s] <= 0;
                boolean growsOn = more > 0 && pinned[s] <= -FARTHEST_EVEN_PIN;
                if (!staysAsItIs && !growsOn) {
                    return false;
                }
            }
            return true;
        }

        private int byEye(int s) {
            int most = Math.min(FARTHEST_PIN, board.left[s]);
            int eighths = Math.max(-FARTHEST_PIN, Math.min(most, -board.off[s]));
            if (board.kinds[s] == STRIPED) {
                eighths -= eighths % 2;
            }
            return eighths;
        }
    }

    /** What can be undone, the latest 16, and MARKS. */
    private static final class Acts {
        private final Fitting[] fittings = new Fitting[ACTS];
        private int next;
        int count;
        final Fitting[] marks = new Fitting[MARKS];
        int marked;

        Acts() {
            for (int i = 0; i < ACTS; i++) {
                fittings[i] = new Fitting();
            }
            for (int i = 0; i < MARKS; i++) {
                marks[i] = new Fitting();
            }
        }

        void clear() {
            count = 0;
            marked = 0;
        }

        void keep(Fitting fitting) {
            fittings[next].take(fitting);
            next = (next + 1) % ACTS;
            count = Math.min(ACTS, count + 1);
        }

        /** How it was ahead of the latest act. */
        Fitting latest() {
            return fittings[(next + ACTS - 1) % ACTS];
        }

        void dropLatest() {
            next = (next + ACTS - 1) % ACTS;
            count--;
        }

        int markAs(Fitting fitting) {
            if (marked >= MARKS) {
                return NONE;
            }
            marks[marked].take(fitting);
            marked++;
            return marked - 1;
        }
    }
}
