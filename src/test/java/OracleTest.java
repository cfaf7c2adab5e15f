import java.nio.charset.StandardCharsets;
import java.util.ArrayList;
import java.util.List;
import java.util.NoSuchElementException;
import java.util.Random;

/** Runs of calls by draws, each answer held against the one of the Oracle. */
public final class OracleTest {
    private static final String[] ASKED = {
        "fault", "where", "size", "trouble", "led", "seam", "pull", "body", "measured", "taped", "amiss", "together",
        "wrong", "fits", "until", "worst", "worstPose", "stripe", "tryPin", "fewest", "pinOf", "best", "bestBy",
        "bestLeaves", "bestAll", "bestAllBy", "bestAllLeaves", "reach", "settles", "orders", "orderAt", "enough",
        "need", "leave", "visits", "visitAt", "when", "whenAmiss", "truly", "widest", "judge", "part", "meets",
        "meetBy", "tight", "month", "months", "before", "better"};
    private static final String[] DONE = {"pin", "pin", "pin", "days", "wear", "undo", "mark", "back"};
    private static final String[] NAMES = {
        "a", "b", "chest", "body", "at", "plain", "left", "size", "within", "abcdefgh", "z", "worn", "holds", "q", "aa"};

    private final Random random;
    private final Check check = new Check();
    private SecondFitting x;
    private Oracle oracle;
    private int run;

    private OracleTest(long seed) {
        random = new Random(seed);
    }

    public static void main(String[] args) {
        OracleTest test = new OracleTest(20261118);
        int runs = args.length > 0 ? Integer.parseInt(args[0]) : 400;
        for (int i = 0; i < runs; i++) {
            test.runOne(i);
        }
        test.check.end();
    }

    private int pick(int low, int high) {
        return low + random.nextInt(high - low + 1);
    }

    private void runOne(int number) {
        run = number;
        x = new SecondFitting();
        oracle = new Oracle();
        int calls = 0;
        boolean spoil = number % 4 == 3;
        for (int suits = 0; suits < (spoil ? 6 : 2); suits++) {
            calls += suitOf(spoil && pick(0, 3) > 0);
            int asks = spoil ? 10 : 65;
            for (int i = 0; i < asks; i++) {
                if (pick(0, 3) == 0) {
                    one(DONE[pick(0, DONE.length - 1)]);
                } else {
                    one(ASKED[pick(0, ASKED.length - 1)]);
                }
                calls += 3;
            }
        }
        if (calls > 512) {
            throw new IllegalStateException("too many calls in one run: " + calls);
        }
    }

    // ---- texts

    private int suitOf(boolean spoil) {
        List<String> lines = lines();
        if (spoil) {
            for (int i = pick(1, 2); i > 0; i--) {
                spoilLine(lines);
            }
        }
        StringBuilder text = new StringBuilder();
        for (int i = 0; i < lines.size(); i++) {
            text.append(i == 0 ? "" : pick(0, 5) == 0 ? " ; " : ";").append(lines.get(i));
        }
        if (spoil) {
            for (int i = pick(0, 1); i > 0; i--) {
                spoilByte(text);
            }
        }
        if (pick(0, 5) == 0) {
            text.append("  ");
        }
        if (text.length() > 1000) {
            text.setLength(1000);
        }
        byte[] bytes = text.toString().getBytes(StandardCharsets.ISO_8859_1);
        int calls = 0;
        int[] five = new int[5];
        for (int from = 0; from < bytes.length; from += 20) {
            for (int i = 0; i < 20; i++) {
                five[i / 4] = five[i / 4] << 8 | (from + i < bytes.length ? bytes[from + i] & 255 : pick(0, 255));
            }
            check.due("run " + run + " feed", x.feed(five[0], five[1], five[2], five[3], five[4]), oracle.feed(five));
            calls++;
        }
        int n = pick(0, 20) == 0 ? pick(-1, 1001) : bytes.length;
        String told = "run " + run + " suit(" + n + ") of '" + text + "'";
        check.due(told, x.suit(n), oracle.suit(n));
        check.due(told + " trouble", x.trouble(), oracle.call("trouble", 0, 0, 0));
        check.due(told + " fault", x.fault(), oracle.call("fault", 0, 0, 0));
        check.due(told + " where", x.where(), oracle.call("where", 0, 0, 0));
        return calls + 4;
    }

    private List<String> lines() {
        // One in four is told up to the bounds; the others are such that pins and rounds have something to find.
        boolean wild = pick(0, 3) == 0;
        int within = pick(0, wild ? 9 : 3);
        List<String> lines = new ArrayList<>();
        lines.add("suit within " + within + " wedding " + (pick(0, 3) == 0 ? pick(1, 5) : pick(1, 99)));
        int measures = pick(1, pick(0, 4) == 0 ? 6 : 3);
        int seams = pick(1, pick(0, 2) == 0 ? 6 : 4);
        int first = pick(0, NAMES.length - 1);
        int[] bodies = new int[measures];
        for (int m = 0; m < measures; m++) {
            bodies[m] = wild ? pick(40, 400) : pick(50, 120);
            lines.add("measure " + name(first, m) + " body " + bodies[m] + " holds "
                + pick(0, wild ? 20 : pick(0, 1) * 6 + 2) + " grows " + pick(0, wild ? 9 : 4));
        }
        for (int s = 0; s < seams; s++) {
            int m = pick(0, measures - 1);
            int off = pick(0, 2) == 0 ? pick(-2, 2) : wild ? pick(-20, 100) : pick(-9, 12);
            lines.add("seam " + name(first, measures + s) + " " + Oracle.KINDS.get(pick(0, 3)) + " at "
                + name(first, m) + " size " + (bodies[m] + off) + " left " + pick(0, wild ? 20 : 12));
        }
        int pulls = seams < 2 ? 0 : pick(0, pick(0, 3) == 0 ? Math.min(12, seams * (seams - 1)) : Math.min(3, seams));
        List<List<Integer>> used = new ArrayList<>();
        while (used.size() < pulls) {
            List<Integer> two = List.of(pick(0, seams - 1), pick(0, seams - 1));
            if (!two.get(0).equals(two.get(1)) && !used.contains(two)) {
                used.add(two);
                lines.add("pull " + name(first, measures + two.get(0)) + " " + name(first, measures + two.get(1)) + " "
                    + pick(1, pick(0, 2) == 0 ? 4 : 1));
            }
        }
        int stripes = seams < 2 ? 0 : pick(0, Math.min(4, seams * (seams - 1) / 2));
        used.clear();
        while (used.size() < stripes) {
            int a = pick(0, seams - 1);
            int b = pick(0, seams - 1);
            if (a != b && !used.contains(List.of(a, b)) && !used.contains(List.of(b, a))) {
                used.add(List.of(a, b));
                lines.add("stripe " + name(first, measures + a) + " " + name(first, measures + b) + " " + pick(0, 7));
            }
        }
        int day = pick(-1, 10);
        for (int f = pick(0, 6); f > 0 && day < 85; f--) {
            day += pick(1, 14);
            lines.add("feast " + day + " chance " + (pick(0, 2) == 0 ? pick(0, 1) * 100 : pick(0, 100)));
        }
        for (int r = pick(0, 6); r > 0; r--) {
            int m = pick(0, measures - 1);
            int by = wild ? pick(-20, 60) : pick(-4, 12);
            lines.add("read " + name(first, m) + " " + pick(0, 99) + " " + Math.max(60, bodies[m] + by));
        }
        return lines;
    }

    private static String name(int first, int i) {
        return NAMES[(first + i) % NAMES.length];
    }

    private void spoilLine(List<String> lines) {
        int at = pick(0, lines.size() - 1);
        String[] parts = lines.get(at).split(" ");
        int part = pick(0, parts.length - 1);
        switch (pick(0, 6)) {
            case 0 -> lines.remove(at);
            case 1 -> lines.add(pick(0, lines.size()), lines.get(at));
            case 2 -> lines.add(lines.get(pick(0, lines.size() - 1)));
            case 3 -> parts[part] = lines.get(pick(0, lines.size() - 1)).split(" ")[0];
            case 4 -> parts[part] = NAMES[pick(0, NAMES.length - 1)];
            case 5 -> parts[part] = String.valueOf(pick(0, 1100));
            default -> parts[part] = new String[] {"", ";", "abcdefghi", "0001", "007", "x1", "A", "1x"}[pick(0, 7)];
        }
        if (at < lines.size() && pick(0, 1) == 0 || lines.isEmpty()) {
            lines.add(Math.min(at, lines.size()), String.join(" ", parts));
        } else if (at < lines.size()) {
            lines.set(at, String.join(" ", parts));
        }
    }

    private void spoilByte(StringBuilder text) {
        if (text.length() == 0) {
            return;
        }
        int at = pick(0, text.length() - 1);
        switch (pick(0, 3)) {
            case 0 -> text.setLength(at);
            case 1 -> text.deleteCharAt(at);
            case 2 -> text.setCharAt(at, (char) pick(0, 255));
            default -> text.insert(at, " ;a7".charAt(pick(0, 3)));
        }
    }

    // ---- calls

    private int near(int low, int high) {
        return pick(0, 9) == 0 ? (pick(0, 1) == 0 ? low - pick(1, 2) : high + pick(1, 2)) : pick(low, high);
    }

    private int seam() {
        return near(0, Math.max(0, x.size(3) - 1));
    }

    private void one(String name) {
        int[] in = arguments(name);
        String told = "run " + run + " " + name + "(" + in[0] + ", " + in[1] + ", " + in[2] + ")";
        long got;
        long want;
        try {
            want = oracle.call(name, in[0], in[1], in[2]);
        } catch (NoSuchElementException e) {
            want = Long.MIN_VALUE;
        }
        try {
            got = Calls.of(x, name, in);
        } catch (NoSuchElementException e) {
            got = Long.MIN_VALUE;
        }
        check.due(told, got, want);
        check.due(told + " trouble", x.trouble(), oracle.call("trouble", 0, 0, 0));
    }

    private int[] arguments(String name) {
        int day = pick(0, 2) == 0 ? 0 : near(0, 99);
        return switch (name) {
            case "size", "led" -> new int[] {near(0, name.equals("led") ? 3 : 12), 0, 0};
            case "seam", "need", "pull" -> new int[] {seam(), name.equals("need") ? day : near(0, 3), 0};
            case "stripe" -> new int[] {near(0, Math.max(0, x.size(5) - 1)), near(0, 3), 0};
            case "meetBy", "back" -> new int[] {near(0, 2), 0, 0};
            case "body", "measured", "taped" -> new int[] {near(0, Math.max(0, x.size(2) - 1)), day, near(0, 65536)};
            case "truly" -> new int[] {near(0, Math.max(0, x.size(2) - 1)), pick(0, 1), 0};
            case "amiss" -> new int[] {seam(), day, near(0, 2)};
            case "together", "wrong" -> new int[] {day, near(0, 2), 0};
            case "pinOf", "orderAt" -> new int[] {day, seam(), 0};
            case "pin", "tryPin" -> new int[] {seam(), near(-9, 9), 0};
            case "enough", "part" -> new int[] {seam(), day, pick(0, 1)};
            case "leave" -> new int[] {seam(), near(0, 100), 0};
            case "tight" -> new int[] {seam(), near(0, 90), 0};
            case "visitAt" -> new int[] {near(0, 3), 0, 0};
            case "month" -> new int[] {near(0, 65536), 0, 0};
            case "months" -> new int[] {near(0, 65536), near(1, 60), 0};
            case "days", "wear" -> new int[] {pick(0, 3) == 0 ? near(1, 60) : pick(1, 12), 0, 0};
            case "reach" -> new int[] {seam(), 0, 0};
            default -> new int[] {day, 0, 0};
        };
    }
}
