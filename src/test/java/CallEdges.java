import java.util.Arrays;
import java.util.Map;
import java.util.function.Supplier;

/**
 * By which numbers each call is refused: every argument at its bounds, one below the least and one above the greatest,
 * of two that are wrong the first number, and all without a SUIT.
 */
final class CallEdges {
    /** The least and the greatest of an argument that are taken, by which number others are refused, a fine one. */
    private record Argument(int least, int greatest, int trouble, int fine) { }

    // What is there of each in the coat that was worked on: it is day 13 there.
    private static final Map<Character, Argument> ARGUMENTS = Map.ofEntries(
        Map.entry('s', new Argument(0, 3, 1, 0)),
        Map.entry('m', new Argument(0, 1, 1, 0)),
        Map.entry('k', new Argument(0, 1, 1, 0)),
        Map.entry('w', new Argument(0, 3, 1, 2)),
        Map.entry('p', new Argument(0, 2, 1, 1)),
        Map.entry('v', new Argument(0, 1, 1, 0)),
        Map.entry('b', new Argument(0, 1, 1, 0)),
        Map.entry('d', new Argument(0, 99, 2, 20)),
        Map.entry('r', new Argument(0, 65536, 2, 7)),
        Map.entry('n', new Argument(1, 60, 2, 5)),
        Map.entry('c', new Argument(0, 100, 2, 50)),
        Map.entry('g', new Argument(0, 86, 2, 30)),
        // A day on which the fewest pins and the orders are found, as they aren't on each.
        Map.entry('e', new Argument(0, 9, 2, 0)));

    private final Sentences told;

    CallEdges(Sentences told) {
        this.told = told;
    }

    void all() {
        now();
        pins();
        rest();
        pulls();
        pinBounds();
        tryPinBounds();
        daysAbove99();
        none();
    }

    private void now() {
        row(6, "NONE: 1.", "seam", "sw", -1);
        row(8, "NONE: 1; 2.", "body", "md", -1);
        row(9, "NONE: 1; 2.", "measured", "md", -1);
        row(10, "NONE: 1; 2.", "taped", "mdr", -1);
        row(11, "-1,000: 1 (seam, POSE); 2.", "amiss", "sdp", -1000);
        row(12, "NONE: 1 (no SUIT, no such POSE); 2.", "together", "dp", -1);
        row(13, "NONE: 1 (no SUIT, no such POSE); 2.", "wrong", "dp", -1);
        row(14, "NONE: 1 (no SUIT); 2.", "fits", "d", -1);
        row(15, "NONE: 1 (no SUIT).", "until", "", -1);
        row(16, "NONE: 1 (no SUIT); 2.", "worst", "d", -1);
        row(17, "NONE: likewise.", "worstPose", "d", -1);
        row(18, "NONE: 1.", "stripe", "kw", -1);
    }

    private void pins() {
        row(20, "NONE: 1 (no SUIT); 2.", "fewest", "d", -1);
        row(22, "NONE: 1 (no SUIT); 2.", "best", "d", -1);
        row(23, "-1,000: 1 (no SUIT); 2.", "bestBy", "d", -1000);
        row(24, "NONE: 1 (no SUIT); 2.", "bestLeaves", "d", -1);
        row(25, "NONE: 1 (no SUIT); 2.", "bestAll", "d", -1);
        row(26, "-1,000: 1 (no SUIT); 2.", "bestAllBy", "d", -1000);
        row(27, "NONE: 1 (no SUIT); 2.", "bestAllLeaves", "d", -1);
        row(28, "NONE: 1.", "reach", "s", -1);
        row(29, "NONE: 1 (no SUIT); 2.", "settles", "d", -1);
        row(30, "NONE: 1 (no SUIT); 2.", "orders", "d", -1);
    }

    private void rest() {
        row(32, "-1: 1; 2.", "enough", "sd", -1);
        row(33, "NONE: 1; 2.", "need", "sd", -1);
        row(34, "NONE: 1; 2.", "leave", "sc", -1);
        row(35, "NONE: 1 (no SUIT).", "visits", "", -1);
        row(36, "NONE: 1 (i, too).", "visitAt", "v", -1);
        row(37, "NONE: 1 (no SUIT).", "when", "", -1);
        row(38, "NONE: 1 (no SUIT).", "whenAmiss", "", -1);
        row(39, "NONE: 1.", "truly", "m", -1);
        row(40, "NONE: 1 (no SUIT).", "widest", "", -1);
        row(41, "NONE: 1 (no SUIT).", "judge", "", -1);
        row(42, "-1,000: 1; 2.", "part", "sd", -1000);
        row(43, "NONE: 1 (no SUIT).", "meets", "", -1);
        row(44, "-1,000: 1.", "meetBy", "k", -1000);
        row(45, "NONE: 1; 2 (beyond day 99, too).", "tight", "sg", -1);
        row(46, "NONE: 1 (no SUIT); 2.", "month", "r", -1);
        row(47, "NONE: 1 (no SUIT); 2.", "months", "rn", -1);
        row(51, "NONE: 1 (no SUIT).", "before", "", -1);
        row(52, "NONE: likewise.", "better", "", -1);
        row(55, "false: 1.", "back", "b", 0);
    }

    /** A call by the letters of its arguments, and what it answers if it is refused. */
    private void row(int promise, String sentence, String name, String letters, long answer) {
        told.of(promise, sentence);
        int[] fine = new int[3];
        for (int i = 0; i < letters.length(); i++) {
            fine[i] = ARGUMENTS.get(letters.charAt(i)).fine;
        }
        taken(name, fine);
        refused(Makers::blank, name, fine, answer, 1);
        for (int i = 0; i < letters.length(); i++) {
            Argument one = ARGUMENTS.get(letters.charAt(i));
            taken(name, with(fine, i, one.least));
            taken(name, with(fine, i, one.greatest));
            for (int wrong : wrongOnes(one)) {
                int[] in = with(fine, i, wrong);
                refused(Makers::worked, name, in, answer, one.trouble);
                refused(Makers::blank, name, in, answer, 1);
                for (int j = i + 1; j < letters.length(); j++) {
                    Argument other = ARGUMENTS.get(letters.charAt(j));
                    refused(Makers::worked, name, with(in, j, other.greatest + 1), answer,
                        Math.min(one.trouble, other.trouble));
                }
            }
        }
    }

    private static int[] wrongOnes(Argument one) {
        return new int[] {one.least - 1, one.greatest + 1, Integer.MIN_VALUE, Integer.MAX_VALUE};
    }

    private static int[] with(int[] in, int i, int value) {
        int[] other = in.clone();
        other[i] = value;
        return other;
    }

    private void taken(String name, int[] in) {
        SecondFitting x = Makers.worked();
        Calls.of(x, name, in);
        told.due(name + Arrays.toString(in) + ", trouble", x.trouble(), 0);
    }

    private void refused(Supplier<SecondFitting> maker, String name, int[] in, long answer, int trouble) {
        told.refused(maker, name + Arrays.toString(in), x -> Calls.of(x, name, in), answer, trouble);
    }

    private void pulls() {
        told.of(7, "NONE: 1 (unlike).");
        for (int s = 0; s < 4; s++) {
            for (int other = 0; other < 4; other++) {
                if (s == other) {
                    refused(Makers::worked, "pull", new int[] {s, other, 0}, -1, 1);
                } else {
                    taken("pull", new int[] {s, other, 0});
                }
            }
            for (int wrong : new int[] {-1, 4, Integer.MIN_VALUE, Integer.MAX_VALUE}) {
                refused(Makers::worked, "pull", new int[] {s, wrong, 0}, -1, 1);
                refused(Makers::worked, "pull", new int[] {wrong, s, 0}, -1, 1);
                refused(Makers::worked, "pull", new int[] {wrong, wrong, 0}, -1, 1);
            }
        }
        refused(Makers::blank, "pull", new int[] {0, 1, 0}, -1, 1);
    }

    /** One plain seam with 9 left, one striped with 8, one plain with 2. */
    private static SecondFitting threeSeams() {
        SecondFitting x = Makers.within(1, Makers.plain("a", 100, 9), Makers.seam("b", "striped", 100, 8),
            Makers.plain("c", 100, 2));
        x.mark();
        x.days(1);
        Check.feedText(x, Look.FIRST_HALF);
        return x;
    }

    private void pinOfAllSorts(String name) {
        int[][] by1 = {{-1, 1}, {3, 1}, {Integer.MIN_VALUE, 1}, {Integer.MAX_VALUE, 1}, {3, 0}, {3, 10}, {3, 1000}};
        for (int[] in : by1) {
            refused(CallEdges::threeSeams, name, with(new int[] {in[0], 0, 0}, 1, in[1]), -1, 1);
        }
        for (int eighths : new int[] {-10, 0, 10, Integer.MIN_VALUE, Integer.MAX_VALUE}) {
            for (int s = 0; s < 3; s++) {
                refused(CallEdges::threeSeams, name, new int[] {s, eighths, 0}, -1, 2);
            }
        }
        // What is odd, or more than is left.
        int[][] by5 = {{1, -9}, {1, -7}, {1, -1}, {1, 1}, {1, 7}, {1, 9}, {2, 3}, {2, 9}};
        for (int[] in : by5) {
            refused(CallEdges::threeSeams, name, new int[] {in[0], in[1], 0}, -1, 5);
        }
        int[][] fine = {{0, -9}, {0, -1}, {0, 1}, {0, 9}, {1, -8}, {1, -2}, {1, 2}, {1, 8}, {2, -9}, {2, 1}, {2, 2}};
        for (int[] in : fine) {
            SecondFitting x = threeSeams();
            long due = name.equals("pin") ? 100 + in[1] : Math.abs(in[1]);
            told.fine(x, name + Arrays.toString(in), Calls.of(x, name, new int[] {in[0], in[1], 0}), due);
        }
        refused(Makers::blank, name, new int[] {0, 1, 0}, -1, 1);
        refused(Makers::blank, name, new int[] {0, 0, 0}, -1, 1);
    }

    private void pinBounds() {
        told.of(48, "NONE: 1; 2 (not -9 .. 9, 0); 5 (not so much is left, a striped one by an odd one).");
        pinOfAllSorts("pin");
        // A refused one is no act: the sixteen that are kept stay.
        refused(Makers::full, "pin", new int[] {1, 2, 0}, -1, 5);
        refused(Makers::full, "pin", new int[] {6, 1, 0}, -1, 1);
        refused(Makers::full, "pin", new int[] {0, 0, 0}, -1, 2);
    }

    private void tryPinBounds() {
        told.of(19, "NONE: 1; 2; 5 (as for PIN).");
        pinOfAllSorts("tryPin");
        // One that is taken changes nothing, either.
        SecondFitting x = threeSeams();
        x.tryPin(0, 9);
        told.due("tried, not pinned", x.seam(0, 2), 100);
        told.due("tried, nothing to undo", x.size(10), 1);
        told.due("tried, all is left", x.seam(0, 3), 9);
    }

    private static SecondFitting onDay(int day) {
        SecondFitting x = Makers.coat();
        for (int gone = 0; gone < day; gone += Math.min(30, day - gone)) {
            x.days(Math.min(30, day - gone));
        }
        x.mark();
        Check.feedText(x, Look.FIRST_HALF);
        return x;
    }

    private void daysAbove99() {
        for (String name : new String[] {"days", "wear"}) {
            told.of(name.equals("days") ? 49 : 50, name.equals("days") ? "NONE: 1 (no SUIT); 2; 3 (above 99)."
                : "NONE: likewise.");
            for (int n : new int[] {0, -1, 61, Integer.MIN_VALUE, Integer.MAX_VALUE}) {
                refused(() -> onDay(0), name, new int[] {n, 0, 0}, -1, 2);
                refused(() -> onDay(99), name, new int[] {n, 0, 0}, -1, 2);
                refused(Makers::blank, name, new int[] {n, 0, 0}, -1, 1);
            }
            refused(Makers::blank, name, new int[] {1, 0, 0}, -1, 1);
            int[][] fine = {{0, 1}, {0, 60}, {39, 60}, {98, 1}, {40, 59}};
            for (int[] in : fine) {
                SecondFitting x = onDay(in[0]);
                told.fine(x, name + " on " + in[0], Calls.of(x, name, new int[] {in[1], 0, 0}),
                    name.equals("days") ? in[0] + in[1] : in[1]);
                told.due(name + " on " + in[0] + ", the day", x.size(8), in[0] + in[1]);
            }
            int[][] above = {{40, 60}, {99, 1}, {98, 2}, {99, 60}, {41, 59}};
            for (int[] in : above) {
                refused(() -> onDay(in[0]), name, new int[] {in[1], 0, 0}, -1, 3);
            }
            refused(Makers::full, name, new int[] {1, 0, 0}, -1, 3);
        }
    }

    private void none() {
        told.of(21, "-1,000: 1; 2; 6 (three aren't enough).");
        refused(Makers::worked, "pinOf", new int[] {20, 0, 0}, -1000, 6);
        refused(Makers::worked, "pinOf", new int[] {20, 3, 0}, -1000, 6);
        foundOnSomeDays("pinOf", -1000);
        told.of(31, "NONE: 1 (i, too); 2; 6 (none settles).");
        refused(Makers::worked, "orderAt", new int[] {20, 0, 0}, -1, 6);
        refused(Makers::worked, "orderAt", new int[] {20, 3, 0}, -1, 6);
        foundOnSomeDays("orderAt", -1);
        told.of(53, "false: 6.");
        refused(Makers::blank, "undo", new int[3], 0, 6);
        refused(Makers::coat, "undo", new int[3], 0, 6);
        refused(CallEdges::goneBack, "undo", new int[3], 0, 6);
        told.of(54, "NONE: 1 (no SUIT); 3.");
        refused(Makers::blank, "mark", new int[3], -1, 1);
        refused(Makers::full, "mark", new int[3], -1, 3);
    }

    private static SecondFitting goneBack() {
        SecondFitting x = Makers.worked();
        x.back(1);
        return x;
    }

    /** Of a day and a seam, or a place in an order; on day 20 there is none, but what is told ahead comes first. */
    private void foundOnSomeDays(String name, long answer) {
        for (int day : new int[] {0, 9}) {
            for (int i : new int[] {0, 3}) {
                taken(name, new int[] {day, i, 0});
            }
        }
        for (int i : new int[] {-1, 4, Integer.MIN_VALUE, Integer.MAX_VALUE}) {
            for (int day : new int[] {0, 20, -1, 100}) {
                refused(Makers::worked, name, new int[] {day, i, 0}, answer, 1);
            }
        }
        for (int day : new int[] {-1, 100, Integer.MIN_VALUE, Integer.MAX_VALUE}) {
            refused(Makers::worked, name, new int[] {day, 0, 0}, answer, 2);
        }
        refused(Makers::blank, name, new int[3], answer, 1);
        refused(Makers::blank, name, new int[] {100, 0, 0}, answer, 1);
    }
}
