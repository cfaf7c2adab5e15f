import java.math.BigInteger;
import java.util.ArrayList;
import java.util.Arrays;
import java.util.HashMap;
import java.util.LinkedHashMap;
import java.util.List;
import java.util.Map;
import java.util.NoSuchElementException;
import java.util.Set;
import java.util.TreeSet;

/** The document told a second time, as slowly and plainly as can be: what OracleTest holds the program against. */
final class Oracle {
    record Measure(int body, int holds, int grows) { }
    record Seam(String kind, int measure, int size, int left) { }
    record Stripe(int first, int second, int lie) { }
    record Feast(int day, int chance) { }
    record Reading(int measure, int day, int value) { }
    record State(List<Integer> sizes, List<Integer> left, int day, int wear) { }

    static final class Spoilt extends RuntimeException {
        private static final long serialVersionUID = 1;

        final int number;
        final int place;

        Spoilt(int number, int place) {
            this.number = number;
            this.place = place;
        }
    }

    static final class Suit {
        int within;
        int wedding;
        final List<Measure> measures = new ArrayList<>();
        final List<Seam> seams = new ArrayList<>();
        final Map<List<Integer>, Integer> pulls = new LinkedHashMap<>();
        final List<Stripe> stripes = new ArrayList<>();
        final List<Feast> feasts = new ArrayList<>();
        final List<Reading> readings = new ArrayList<>();
    }

    record Token(char sort, String text, int place) { }

    static final Set<String> RESERVED = new TreeSet<>(
        List.of("suit", "measure", "seam", "pull", "stripe", "feast", "read"));
    static final List<String> KINDS = List.of("plain", "striped", "pulling", "worn");

    private final List<Integer> tape = new ArrayList<>();
    private Suit suit;
    private State now;
    private final List<State> undo = new ArrayList<>();
    private final List<State> marks = new ArrayList<>();
    private int trouble;
    private int fault;
    private int place = -1;

    // ---- the text

    private static List<Token> tokens(String text) {
        List<Token> tokens = new ArrayList<>();
        int i = 0;
        while (i < text.length()) {
            char c = text.charAt(i);
            int from = i;
            if (c == ' ') {
                i++;
                continue;
            }
            if (c >= 'a' && c <= 'z') {
                while (i < text.length() && text.charAt(i) >= 'a' && text.charAt(i) <= 'z') {
                    i++;
                }
                tokens.add(new Token(i - from <= 8 ? 'w' : '?', text.substring(from, i), from));
            } else if (c >= '0' && c <= '9') {
                while (i < text.length() && text.charAt(i) >= '0' && text.charAt(i) <= '9') {
                    i++;
                }
                tokens.add(new Token(i - from <= 3 ? 'n' : '?', text.substring(from, i), from));
            } else {
                i++;
                tokens.add(new Token(c == ';' ? ';' : '?', text.substring(from, i), from));
            }
        }
        tokens.add(new Token('.', "", text.length()));
        return tokens;
    }

    /** What each sort of LINE is made of: WORDS as they stand, and in capitals what stands for something. */
    private static final Map<String, String> LINES = Map.of(
        "suit", "within N0-9 wedding N1-99",
        "measure", "NEW body N40-400 holds N0-20 grows N0-9",
        "seam", "NEW KIND at MEASURE size N20-500 left N0-20",
        "pull", "SEAM OTHER N1-4",
        "stripe", "SEAM OTHER N0-7",
        "feast", "DAY chance N0-100",
        "read", "MEASURE N0-99 N60-500");
    private static final Map<String, Integer> ROOM = Map.of(
        "measure", 6, "seam", 6, "pull", 12, "stripe", 4, "feast", 6, "read", 8);

    static Suit parse(String text) {
        Suit suit = new Suit();
        Map<String, String> sorts = new HashMap<>();
        Map<String, Integer> numbers = new HashMap<>();
        Map<String, Integer> told = new HashMap<>();
        List<Token> tokens = tokens(text);
        int t = 0;
        while (true) {
            Token first = tokens.get(t++);
            if (first.sort != 'w' || !RESERVED.contains(first.text)) {
                throw new Spoilt(1, first.place);
            }
            boolean isSuit = first.text.equals("suit");
            if (isSuit && told.containsKey("suit")) {
                throw new Spoilt(3, first.place);
            }
            if (!isSuit && told.getOrDefault(first.text, 0) >= ROOM.get(first.text)) {
                throw new Spoilt(5, first.place);
            }
            if (!isSuit && !told.containsKey("suit")) {
                throw new Spoilt(6, first.place);
            }
            List<Integer> values = new ArrayList<>();
            String name = null;
            for (String part : LINES.get(first.text).split(" ")) {
                Token token = tokens.get(t++);
                boolean isName = token.sort == 'w' && !RESERVED.contains(token.text);
                if (part.equals("NEW")) {
                    need(isName, 1, token);
                    need(!sorts.containsKey(token.text), 3, token);
                    name = token.text;
                } else if (part.equals("KIND")) {
                    need(token.sort == 'w' && KINDS.contains(token.text), 1, token);
                    values.add(KINDS.indexOf(token.text));
                } else if (part.equals("MEASURE") || part.equals("SEAM") || part.equals("OTHER")) {
                    need(isName, 1, token);
                    String sort = part.equals("MEASURE") ? "measure" : "seam";
                    need(sort.equals(sorts.get(token.text)), 2, token);
                    int number = numbers.get(token.text);
                    if (part.equals("OTHER")) {
                        need(!joined(suit, first.text, values.get(0), number), 3, token);
                    }
                    values.add(number);
                } else if (part.equals("DAY") || part.startsWith("N")) {
                    need(token.sort == 'n', 1, token);
                    int value = Integer.parseInt(token.text);
                    int low = 0;
                    int high = 99;
                    if (part.equals("DAY")) {
                        for (Feast feast : suit.feasts) {
                            low = Math.max(low, feast.day + 1);
                        }
                    } else {
                        low = Integer.parseInt(part.substring(1).split("-")[0]);
                        high = Integer.parseInt(part.split("-")[1]);
                    }
                    need(value >= low && value <= high, 4, token);
                    values.add(value);
                } else {
                    need(token.sort == 'w' && token.text.equals(part), 1, token);
                }
            }
            told.merge(first.text, 1, Integer::sum);
            add(suit, first.text, values);
            if (name != null) {
                sorts.put(name, first.text);
                numbers.put(name, (first.text.equals("seam") ? suit.seams : suit.measures).size() - 1);
            }
            Token last = tokens.get(t++);
            if (last.sort == '.') {
                need(!suit.seams.isEmpty(), 6, last);
                return suit;
            }
            need(last.sort == ';', 1, last);
        }
    }

    private static void need(boolean so, int number, Token token) {
        if (!so) {
            throw new Spoilt(number, token.place);
        }
    }

    private static boolean joined(Suit suit, String line, int first, int second) {
        if (first == second) {
            return true;
        }
        if (line.equals("pull")) {
            return suit.pulls.containsKey(List.of(first, second));
        }
        for (Stripe stripe : suit.stripes) {
            if (Set.of(stripe.first, stripe.second).equals(Set.of(first, second))) {
                return true;
            }
        }
        return false;
    }

    private static void add(Suit suit, String line, List<Integer> v) {
        switch (line) {
            case "suit" -> {
                suit.within = v.get(0);
                suit.wedding = v.get(1);
            }
            case "measure" -> suit.measures.add(new Measure(v.get(0), v.get(1), v.get(2)));
            case "seam" -> suit.seams.add(new Seam(KINDS.get(v.get(0)), v.get(1), v.get(2), v.get(3)));
            case "pull" -> suit.pulls.put(List.of(v.get(0), v.get(1)), v.get(2));
            case "stripe" -> suit.stripes.add(new Stripe(v.get(0), v.get(1), v.get(2)));
            case "feast" -> suit.feasts.add(new Feast(v.get(0), v.get(1)));
            default -> suit.readings.add(new Reading(v.get(0), v.get(1), v.get(2)));
        }
    }

    // ---- refusals

    private long refuse(int number, long answer) {
        trouble = number;
        return answer;
    }

    /** The number by which a call is refused that needs something to be there, and numbers in bounds. */
    private boolean bad(boolean there, boolean bounds) {
        trouble = !there ? 1 : !bounds ? 2 : 0;
        return trouble != 0;
    }

    private int seams() {
        return suit == null ? 0 : suit.seams.size();
    }

    private boolean seamIs(int s) {
        return s >= 0 && s < seams();
    }

    private boolean measureIs(int m) {
        return suit != null && m >= 0 && m < suit.measures.size();
    }

    private static boolean in(int value, int low, int high) {
        return value >= low && value <= high;
    }

    private static boolean dayIs(int day) {
        return in(day, 0, 99);
    }

    // ---- the body and the cloth

    private int grown(int m, int day) {
        int grown = 0;
        for (Feast feast : suit.feasts) {
            if (feast.day <= day) {
                grown += suit.measures.get(m).grows;
            }
        }
        return grown;
    }

    private int bodyOf(int m, int day) {
        return suit.measures.get(m).body + grown(m, day);
    }

    private int measuredOf(int m, int day) {
        return bodyOf(m, day) - suit.measures.get(m).holds;
    }

    private boolean kind(int s, String kind) {
        return suit.seams.get(s).kind.equals(kind);
    }

    private int sizeOf(State state, int s) {
        return state.sizes.get(s) + (kind(s, "worn") ? state.wear / 10 : 0);
    }

    private int poseNeeds(int s, int pose) {
        return kind(s, "pulling") && pose == 2 ? 3 : kind(s, "worn") && pose == 1 ? 2 : 0;
    }

    private int amissOf(State state, int s, int day, int pose) {
        return sizeOf(state, s) - bodyOf(suit.seams.get(s).measure, day) - poseNeeds(s, pose);
    }

    private int sum(State state, int day, int pose) {
        int sum = 0;
        for (int s = 0; s < seams(); s++) {
            sum += Math.abs(amissOf(state, s, day, pose));
        }
        return sum;
    }

    private int wrongOf(State state, int day, int pose) {
        int bits = 0;
        for (int s = 0; s < seams(); s++) {
            if (Math.abs(amissOf(state, s, day, pose)) > suit.within) {
                bits += 1 << s;
            }
        }
        return bits;
    }

    private int pullOf(int s, int other) {
        return suit.pulls.getOrDefault(List.of(s, other), 0);
    }

    private boolean allowed(State state, int s, int by) {
        return by != 0 && in(by, -9, 9) && by <= state.left.get(s) && !(kind(s, "striped") && by % 2 != 0);
    }

    private State pinned(State state, int s, int by) {
        List<Integer> sizes = new ArrayList<>(state.sizes);
        List<Integer> left = new ArrayList<>(state.left);
        left.set(s, left.get(s) - by);
        sizes.set(s, sizes.get(s) + by);
        for (int other = 0; other < seams(); other++) {
            if (other != s) {
                sizes.set(other, sizes.get(other) - pullOf(s, other) * by);
            }
        }
        return new State(sizes, left, state.day, state.wear);
    }

    // ---- searches

    /** The first row of just so many pins, of all rows in their order; null if there is none. */
    private int[] rowOf(int day, int count) {
        int n = seams();
        int[] row = new int[n];
        Arrays.fill(row, -9);
        while (true) {
            int nonzero = 0;
            boolean ok = true;
            for (int s = 0; s < n; s++) {
                if (row[s] != 0) {
                    nonzero++;
                    ok &= allowed(now, s, row[s]);
                }
            }
            if (ok && nonzero == count && rowFits(row, day)) {
                return row;
            }
            int s = n - 1;
            while (s >= 0 && row[s] == 9) {
                row[s--] = -9;
            }
            if (s < 0) {
                return null;
            }
            row[s]++;
            // Rows of more pins than asked for are many, and none of them is it.
            int ahead = 0;
            for (int i = 0; i <= s; i++) {
                ahead += row[i] != 0 ? 1 : 0;
            }
            if (ahead >= count) {
                for (int i = s + 1; i < n; i++) {
                    row[i] = 0;
                }
                if (ahead > count) {
                    continue;
                }
                if (rowAllowed(row) && rowFits(row, day)) {
                    return row;
                }
                for (int i = s + 1; i < n; i++) {
                    row[i] = 9;
                }
            }
        }
    }

    private boolean rowAllowed(int[] row) {
        for (int s = 0; s < row.length; s++) {
            if (row[s] != 0 && !allowed(now, s, row[s])) {
                return false;
            }
        }
        return true;
    }

    private boolean rowFits(int[] row, int day) {
        for (int s = 0; s < row.length; s++) {
            int off = amissOf(now, s, day, 0) + row[s];
            for (int other = 0; other < row.length; other++) {
                if (other != s) {
                    off -= pullOf(other, s) * row[other];
                }
            }
            if (Math.abs(off) > suit.within) {
                return false;
            }
        }
        return true;
    }

    private final Map<List<Object>, int[]> rows = new HashMap<>();

    private int[] fewestRow(int day) {
        List<Object> key = List.of(now, day);
        if (!rows.containsKey(key)) {
            int[] found = null;
            for (int count = 0; count <= 3 && found == null; count++) {
                if (count <= seams()) {
                    found = count == 0 ? (rowFits(new int[seams()], day) ? new int[seams()] : null) : rowOf(day, count);
                }
            }
            rows.put(key, found);
        }
        return rows.get(key);
    }

    /** The best pin: seam, by how much, what is amiss then. */
    private int[] bestOf(int day, boolean all) {
        int[] found = {-2, 0, cost(now, day, all)};
        for (int s = 0; s < seams(); s++) {
            for (int by = -9; by <= 9; by++) {
                if (allowed(now, s, by)) {
                    int cost = cost(pinned(now, s, by), day, all);
                    if (cost < found[2]) {
                        found = new int[] {s, by, cost};
                    }
                }
            }
        }
        return found;
    }

    private int cost(State state, int day, boolean all) {
        return all ? Math.max(sum(state, day, 0), Math.max(sum(state, day, 1), sum(state, day, 2))) : sum(state, day, 0);
    }

    private int rounds(List<Integer> order, int day) {
        State state = now;
        for (int rounds = 0; rounds <= 20; rounds++) {
            if (wrongOf(state, day, 0) == 0) {
                return rounds;
            }
            for (int s : order) {
                int by = -amissOf(state, s, day, 0);
                by = Math.min(by, state.left.get(s));
                by = by > 9 ? 9 : by < -9 ? -9 : by;
                if (kind(s, "striped") && by % 2 != 0) {
                    by += by > 0 ? -1 : 1;
                }
                if (by != 0) {
                    state = pinned(state, s, by);
                }
            }
        }
        return -2;
    }

    private void allOrders(List<Integer> order, List<List<Integer>> orders) {
        if (order.size() == seams()) {
            orders.add(new ArrayList<>(order));
            return;
        }
        for (int s = 0; s < seams(); s++) {
            if (!order.contains(s)) {
                order.add(s);
                allOrders(order, orders);
                order.remove(order.size() - 1);
            }
        }
    }

    private final Map<List<Object>, List<Integer>> bestOrders = new HashMap<>();

    /** Rounds, and behind them the order. */
    private List<Integer> bestOrder(int day) {
        List<Object> key = List.of(now, day);
        if (!bestOrders.containsKey(key)) {
            List<List<Integer>> orders = new ArrayList<>();
            allOrders(new ArrayList<>(), orders);
            List<Integer> found = new ArrayList<>(List.of(-2));
            for (List<Integer> order : orders) {
                int rounds = rounds(order, day);
                if (rounds >= 0 && (found.get(0) < 0 || rounds < found.get(0))) {
                    found = new ArrayList<>(List.of(rounds));
                    found.addAll(order);
                }
            }
            bestOrders.put(key, found);
        }
        return bestOrders.get(key);
    }

    /** How likely so much is enough, as ways of all ways. */
    private BigInteger[] likely(int s, int day, int eighths) {
        List<Feast> upTo = new ArrayList<>();
        for (Feast feast : suit.feasts) {
            if (feast.day <= day) {
                upTo.add(feast);
            }
        }
        Measure measure = suit.measures.get(suit.seams.get(s).measure);
        BigInteger good = BigInteger.ZERO;
        BigInteger all = BigInteger.valueOf(100).pow(upTo.size());
        for (int keeps = 0; keeps < 1 << upTo.size(); keeps++) {
            BigInteger ways = BigInteger.ONE;
            int body = measure.body;
            for (int f = 0; f < upTo.size(); f++) {
                boolean kept = (keeps >> f & 1) == 1;
                ways = ways.multiply(BigInteger.valueOf(kept ? upTo.get(f).chance : 100 - upTo.get(f).chance));
                body += kept ? measure.grows : 0;
            }
            if (body <= eighths) {
                good = good.add(ways);
            }
        }
        return new BigInteger[] {good, all};
    }

    private List<Integer> visitDays() {
        List<Integer> days = new ArrayList<>();
        if (now.day > suit.wedding) {
            return days;
        }
        days.add(now.day);
        for (int day = now.day + 1; day <= suit.wedding; day++) {
            int latest = days.get(days.size() - 1);
            boolean due = false;
            for (Seam seam : suit.seams) {
                due |= grown(seam.measure, day) - grown(seam.measure, latest) > suit.within;
            }
            if (due) {
                days.add(day);
            }
        }
        return days;
    }

    private int[] whenOf() {
        int[] found = {-1, Integer.MAX_VALUE};
        for (int day = 0; day <= suit.wedding; day++) {
            int sum = 0;
            for (Seam seam : suit.seams) {
                sum += Math.abs(measuredOf(seam.measure, day) - bodyOf(seam.measure, suit.wedding));
            }
            if (sum < found[1]) {
                found = new int[] {day, sum};
            }
        }
        return found;
    }

    /** All that a measure can be by what was read; null if nothing was. */
    private List<Integer> truths(int m) {
        List<Integer> truths = new ArrayList<>();
        boolean read = false;
        for (Reading reading : suit.readings) {
            read |= reading.measure == m;
        }
        if (!read) {
            return null;
        }
        for (int body = -100; body <= 700; body++) {
            boolean can = true;
            for (Reading reading : suit.readings) {
                if (reading.measure == m) {
                    int least = reading.value - grown(m, reading.day);
                    can &= body >= least && body <= least + suit.measures.get(m).holds;
                }
            }
            if (can) {
                truths.add(body);
            }
        }
        return truths;
    }

    private int lie(State state, Stripe stripe) {
        int lie = sizeOf(state, stripe.first) - sizeOf(state, stripe.second);
        while (lie < 0) {
            lie += 8;
        }
        while (lie > 7) {
            lie -= 8;
        }
        return lie;
    }

    private static int draw(int seed) {
        return (int) ((75L * seed + 74) % 65537);
    }

    /** What is amiss together and by how much at most in each of n months. */
    private List<int[]> monthsOf(int seed, int n) {
        List<int[]> found = new ArrayList<>();
        for (int i = 0; i < n; i++) {
            int kept = 0;
            for (Feast feast : suit.feasts) {
                if (feast.day <= suit.wedding) {
                    seed = draw(seed);
                    kept += seed % 100 < feast.chance ? 1 : 0;
                }
            }
            int sum = 0;
            int most = 0;
            for (int s = 0; s < seams(); s++) {
                Measure measure = suit.measures.get(suit.seams.get(s).measure);
                int off = Math.abs(sizeOf(now, s) - measure.body - kept * measure.grows);
                sum += off;
                most = Math.max(most, off);
            }
            found.add(new int[] {sum, most});
        }
        return found;
    }

    private void act(State next) {
        undo.add(now);
        if (undo.size() > 16) {
            undo.remove(0);
        }
        now = next;
    }

    // ---- the calls

    long feed(int... five) {
        if (tape.size() + 20 > 1000) {
            return -1;
        }
        for (int number : five) {
            for (int i = 3; i >= 0; i--) {
                tape.add(number >>> 8 * i & 255);
            }
        }
        return tape.size();
    }

    long suit(int n) {
        if (n < 0 || n > tape.size()) {
            return refuse(2, -1);
        }
        StringBuilder text = new StringBuilder();
        for (int i = 0; i < n; i++) {
            text.append((char) (int) tape.get(i));
        }
        tape.clear();
        try {
            suit = parse(text.toString());
        } catch (Spoilt spoilt) {
            fault = spoilt.number;
            place = spoilt.place;
            return refuse(4, -1);
        }
        fault = 0;
        List<Integer> sizes = new ArrayList<>();
        List<Integer> left = new ArrayList<>();
        for (Seam seam : suit.seams) {
            sizes.add(seam.size);
            left.add(seam.left);
        }
        now = new State(sizes, left, 0, 0);
        undo.clear();
        marks.clear();
        rows.clear();
        bestOrders.clear();
        return refuse(0, seams());
    }

    /** Any other call, by its name; a boolean goes in and comes out as 1 or 0. */
    long call(String name, int a, int b, int c) {
        switch (name) {
            case "fault":
                return fault;
            case "where":
                return trouble == 4 ? place : -1;
            case "size":
                return told(a);
            case "trouble":
                return trouble;
            case "led":
                return led(a);
            case "undo":
                if (undo.isEmpty()) {
                    return refuse(6, 0);
                }
                now = undo.remove(undo.size() - 1);
                return refuse(0, 1);
            case "back":
                if (bad(a >= 0 && a < marks.size(), true)) {
                    return 0;
                }
                now = marks.get(a);
                undo.clear();
                return 1;
            case "pin":
            case "tryPin":
                return pinCall(name.equals("pin"), a, b);
            case "days":
            case "wear":
                return dayCall(name.equals("wear"), a);
            case "mark":
                if (bad(suit != null, true)) {
                    return -1;
                }
                if (marks.size() == 3) {
                    return refuse(3, -1);
                }
                marks.add(now);
                return marks.size() - 1;
            default:
                return ask(name, a, b, c);
        }
    }

    private long led(int i) {
        List<Integer> found = new ArrayList<>();
        for (int s = 0; s < seams(); s++) {
            if (Math.abs(amissOf(now, s, now.day, 0)) > suit.within) {
                found.add(s);
            }
        }
        if (i < 0 || i >= found.size()) {
            throw new NoSuchElementException();
        }
        return found.get(i);
    }

    private long told(int what) {
        if (what == 12) {
            return tape.size();
        }
        if (!in(what, 0, 12)) {
            return -1;
        }
        if (suit == null) {
            return 0;
        }
        return new int[] {suit.within, suit.wedding, suit.measures.size(), suit.seams.size(), suit.pulls.size(),
            suit.stripes.size(), suit.feasts.size(), suit.readings.size(), now.day, now.wear, undo.size(),
            marks.size()}[what];
    }

    private long pinCall(boolean act, int s, int by) {
        if (bad(seamIs(s), in(by, -9, 9) && by != 0)) {
            return -1;
        }
        if (!allowed(now, s, by)) {
            return refuse(5, -1);
        }
        State next = pinned(now, s, by);
        if (!act) {
            return sum(next, now.day, 0);
        }
        act(next);
        return sizeOf(now, s);
    }

    private long dayCall(boolean worn, int n) {
        if (bad(suit != null, in(n, 1, 60))) {
            return -1;
        }
        if (now.day + n > 99) {
            return refuse(3, -1);
        }
        act(new State(now.sizes, now.left, now.day + n, now.wear + (worn ? n : 0)));
        return worn ? now.wear : now.day;
    }

    private long ask(String name, int a, int b, int c) {
        boolean there = suit != null;
        switch (name) {
            case "seam":
                return bad(seamIs(a) && in(b, 0, 3), true) ? -1
                    : new int[] {KINDS.indexOf(suit.seams.get(a).kind), suit.seams.get(a).measure, sizeOf(now, a),
                        now.left.get(a)}[b];
            case "pull":
                return bad(seamIs(a) && seamIs(b) && a != b, true) ? -1 : pullOf(a, b);
            case "body":
                return bad(measureIs(a), dayIs(b)) ? -1 : bodyOf(a, b);
            case "measured":
                return bad(measureIs(a), dayIs(b)) ? -1 : measuredOf(a, b);
            case "taped":
                return bad(measureIs(a), dayIs(b) && in(c, 0, 65536)) ? -1 : measuredOf(a, b) + draw(c) % 3 - 1;
            case "amiss":
                return bad(seamIs(a) && in(c, 0, 2), dayIs(b)) ? -1000 : amissOf(now, a, b, c);
            case "together":
                return bad(there && in(b, 0, 2), dayIs(a)) ? -1 : sum(now, a, b);
            case "wrong":
                return bad(there && in(b, 0, 2), dayIs(a)) ? -1 : wrongOf(now, a, b);
            case "fits":
                return bad(there, dayIs(a)) ? -1 : fitsIn(a);
            case "until":
                return bad(there, true) ? -1 : untilDay();
            case "worst":
                return bad(there, dayIs(a)) ? -1 : worstOf(a)[0];
            case "worstPose":
                return bad(there, dayIs(a)) ? -1 : worstOf(a)[1];
            case "stripe":
                return bad(there && a >= 0 && a < suit.stripes.size() && in(b, 0, 3), true) ? -1
                    : new int[] {suit.stripes.get(a).first, suit.stripes.get(a).second, suit.stripes.get(a).lie,
                        lie(now, suit.stripes.get(a))}[b];
            case "fewest":
                return bad(there, dayIs(a)) ? -1 : fewestRow(a) == null ? -2
                    : Arrays.stream(fewestRow(a)).filter(by -> by != 0).count();
            case "pinOf":
                return bad(seamIs(b), dayIs(a)) ? -1000 : fewestRow(a) == null ? refuse(6, -1000) : fewestRow(a)[b];
            case "best":
                return bad(there, dayIs(a)) ? -1 : bestOf(a, false)[0];
            case "bestBy":
                return bad(there, dayIs(a)) ? -1000 : bestOf(a, false)[1];
            case "bestLeaves":
                return bad(there, dayIs(a)) ? -1 : bestOf(a, false)[2];
            case "bestAll":
                return bad(there, dayIs(a)) ? -1 : bestOf(a, true)[0];
            case "bestAllBy":
                return bad(there, dayIs(a)) ? -1000 : bestOf(a, true)[1];
            case "bestAllLeaves":
                return bad(there, dayIs(a)) ? -1 : bestOf(a, true)[2];
            case "reach":
                return bad(seamIs(a), true) ? -1 : reachOf(a, new TreeSet<>());
            default:
                return askMore(name, a, b, c);
        }
    }

    private long askMore(String name, int a, int b, int c) {
        boolean there = suit != null;
        switch (name) {
            case "settles":
                return bad(there, dayIs(a)) ? -1 : settlesOf(a);
            case "orders":
                return bad(there, dayIs(a)) ? -1 : bestOrder(a).get(0);
            case "orderAt":
                return bad(seamIs(b), dayIs(a)) ? -1 : bestOrder(a).get(0) < 0 ? refuse(6, -1) : bestOrder(a).get(b + 1);
            case "enough":
                return bad(seamIs(a), dayIs(b)) ? -1 : enoughOf(a, b, c == 1);
            case "need":
                return bad(seamIs(a), dayIs(b)) ? -1
                    : Math.max(0, bodyOf(suit.seams.get(a).measure, b) - sizeOf(now, a));
            case "leave":
                return bad(seamIs(a), in(b, 0, 100)) ? -1 : leaveOf(a, b);
            case "visits":
                return bad(there, true) ? -1 : visitDays().isEmpty() ? -2 : visitDays().size();
            case "visitAt":
                return bad(there && a >= 0 && a < visitDays().size(), true) ? -1 : visitDays().get(a);
            case "when":
                return bad(there, true) ? -1 : whenOf()[0];
            case "whenAmiss":
                return bad(there, true) ? -1 : whenOf()[1];
            case "truly":
                return bad(measureIs(a), true) ? -1 : truths(a) == null || truths(a).isEmpty() ? -2
                    : truths(a).get(b == 1 ? truths(a).size() - 1 : 0);
            case "widest":
                return bad(there, true) ? -1 : widestOf();
            case "judge":
                return bad(there, true) ? -1 : judgeOf();
            case "part":
                return bad(seamIs(a), dayIs(b)) ? -1000 : c == 1
                    ? sizeOf(now, a) - suit.measures.get(suit.seams.get(a).measure).body
                    : -grown(suit.seams.get(a).measure, b);
            case "meets":
                return bad(there, true) ? -1 : meetsOf();
            case "meetBy":
                return bad(there && a >= 0 && a < suit.stripes.size(), true) ? -1000 : meetByOf(suit.stripes.get(a));
            case "tight":
                return bad(seamIs(a), in(b, 0, 90) && there && now.day + b <= 99) ? -1 : tightOf(a, b);
            case "month":
                return bad(there, in(a, 0, 65536)) ? -1 : monthsOf(a, 1).get(0)[0];
            case "months":
                return bad(there, in(a, 0, 65536) && in(b, 1, 60)) ? -1
                    : monthsOf(a, b).stream().filter(month -> month[1] <= suit.within).count();
            case "before":
                return bad(there, true) ? -1 : undo.isEmpty() ? -2 : sumOfLatest();
            case "better":
                return bad(there, true) ? -1 : undo.isEmpty() ? -2 : sum(now, now.day, 0) < sumOfLatest() ? 1 : 0;
            default:
                throw new IllegalArgumentException(name);
        }
    }

    private long sumOfLatest() {
        State then = undo.get(undo.size() - 1);
        return sum(then, then.day, 0);
    }

    private long fitsIn(int day) {
        long bits = 0;
        for (int pose = 0; pose < 3; pose++) {
            bits += wrongOf(now, day, pose) == 0 ? 1 << pose : 0;
        }
        return bits;
    }

    private long untilDay() {
        int day = now.day;
        while (day <= 99 && wrongOf(now, day, 0) == 0) {
            day++;
        }
        return day > 99 ? -2 : day;
    }

    private int[] worstOf(int day) {
        int[] found = {-1, -1, -1};
        for (int s = 0; s < seams(); s++) {
            for (int pose = 0; pose < 3; pose++) {
                int off = Math.abs(amissOf(now, s, day, pose));
                if (off > found[2]) {
                    found = new int[] {s, pose, off};
                }
            }
        }
        return found;
    }

    private long reachOf(int s, Set<Integer> seen) {
        seen.add(s);
        for (int other = 0; other < seams(); other++) {
            if (!seen.contains(other) && pullOf(s, other) > 0) {
                reachOf(other, seen);
            }
        }
        long bits = 0;
        for (int one : seen) {
            bits += 1 << one;
        }
        return bits;
    }

    private long settlesOf(int day) {
        List<Integer> order = new ArrayList<>();
        for (int s = 0; s < seams(); s++) {
            order.add(s);
        }
        return rounds(order, day);
    }

    private long enoughOf(int s, int day, boolean lower) {
        BigInteger[] parts = likely(s, day, sizeOf(now, s) + now.left.get(s));
        BigInteger divisor = parts[0].gcd(parts[1]);
        return parts[lower ? 1 : 0].divide(divisor).longValueExact();
    }

    private long leaveOf(int s, int percent) {
        for (int left = 0; ; left++) {
            BigInteger[] parts = likely(s, suit.wedding, sizeOf(now, s) + left);
            if (parts[0].multiply(BigInteger.valueOf(100))
                .compareTo(parts[1].multiply(BigInteger.valueOf(percent))) >= 0) {
                return left;
            }
        }
    }

    private long widestOf() {
        int found = -2;
        int most = Integer.MIN_VALUE;
        for (int m = 0; m < suit.measures.size(); m++) {
            List<Integer> truths = truths(m);
            int room = truths == null ? 100000 : truths.size();
            if (room > most) {
                most = room;
                found = m;
            }
        }
        return found;
    }

    private long judgeOf() {
        for (int r = 0; r < suit.readings.size(); r++) {
            Reading reading = suit.readings.get(r);
            int m = reading.measure;
            if (reading.value > bodyOf(m, reading.day) || reading.value < measuredOf(m, reading.day)) {
                return r;
            }
        }
        return -2;
    }

    private long meetsOf() {
        long bits = 0;
        for (int k = 0; k < suit.stripes.size(); k++) {
            bits += lie(now, suit.stripes.get(k)) == suit.stripes.get(k).lie ? 1 << k : 0;
        }
        return bits;
    }

    private long meetByOf(Stripe stripe) {
        if (lie(now, stripe) == stripe.lie) {
            return 0;
        }
        for (int by : new int[] {1, -1, 2, -2, 3, -3, 4, -4, 5, -5, 6, -6, 7, -7, 8, -8, 9, -9}) {
            if (allowed(now, stripe.first, by) && lie(pinned(now, stripe.first, by), stripe) == stripe.lie) {
                return by;
            }
        }
        return 100;
    }

    private long tightOf(int s, int wear) {
        for (int size = 0; ; size++) {
            List<Integer> sizes = new ArrayList<>(now.sizes);
            sizes.set(s, now.sizes.get(s) + size - sizeOf(now, s));
            State then = new State(sizes, now.left, now.day + wear, now.wear + wear);
            if (amissOf(then, s, then.day, 0) == 0) {
                return size;
            }
        }
    }
}
