/** Promises 19 to 31, and what Terms III say of pins: the fewest, the best one, by eye. */
final class PinEdges {
    private final Sentences told;

    PinEdges(Sentences told) {
        this.told = told;
    }

    void all() {
        tryPin();
        fewest();
        firstOfLikeRows();
        pinOf();
        best();
        bestOfLikeOnes();
        bestAll();
        reach();
        byEye();
        rounds();
        orders();
    }

    private static String plain(String name, int size, int left) {
        return Makers.plain(name, size, left);
    }

    private static String striped(String name, int size, int left) {
        return Makers.seam(name, "striped", size, left);
    }

    private void tryPin() {
        told.of(19, "What would be AMISS together, standing on the day NOW, behind a PIN.");
        SecondFitting x = Makers.bare(plain("a", 91, 9), plain("b", 100, 0), Makers.seam("p", "pulling", 100, 0),
            "pull a b 4;feast 5 chance 0");
        told.fine(x, "out by 9", x.tryPin(0, 9), 36);
        told.fine(x, "in by 9", x.tryPin(0, -9), 18 + 36);
        x.days(5);
        told.fine(x, "on a feast", x.tryPin(0, 9), 1 + 37 + 1);
    }

    private void fewest(String what, SecondFitting x, int count) {
        told.fine(x, what, x.fewest(0), count);
    }

    private void fewest() {
        told.terms("PINS: rows of PINS at unlike seams, one at most at each (-9 .. 9 as above, by what is left NOW),"
            + " by which IT FITS standing on a day: the FEWEST (0 .. 3);");
        fewest("it fits", Makers.bare(plain("a", 100, 0)), 0);
        fewest("amiss by within", Makers.within(9, plain("a", 109, 0), plain("b", 91, 0)), 0);
        fewest("amiss by one more", Makers.within(9, plain("a", 110, 0)), 1);
        fewest("in by 9", Makers.bare(plain("a", 109, 0)), 1);
        fewest("in by 10", Makers.bare(plain("a", 110, 0)), -2);
        fewest("in by 9 within 1", Makers.within(1, plain("a", 110, 0)), 1);
        fewest("two at one seam", Makers.bare(plain("a", 118, 0)), -2);
        fewest("out by 9", Makers.bare(plain("a", 91, 9)), 1);
        fewest("out by 9 of 8", Makers.bare(plain("a", 91, 8)), -2);
        fewest("out by 10 of 20", Makers.bare(plain("a", 90, 20)), -2);
        fewest("an odd one", Makers.bare(striped("a", 101, 0)), -2);
        fewest("an even one", Makers.bare(striped("a", 108, 0)), 1);
        fewest("out by 8 of 7", Makers.bare(striped("a", 92, 7)), -2);
        fewest("standing alone", Makers.bare(Makers.seam("a", "worn", 100, 0), Makers.seam("b", "pulling", 100, 0)), 0);
        SecondFitting x = Makers.bare(plain("a", 104, 0), "feast 9 chance 0");
        told.due("what is left NOW", x.pin(0, -9), 95);
        fewest("what is left NOW", x, 1);
        told.due("what is left NOW", x.pinOf(0, 0), 5);
        told.due("on another day", x.pinOf(9, 0), 6);
        x.undo();
        told.due("what is left again", x.pinOf(0, 0), -4);
        told.of(20, "PINS: how many; -2 three aren't enough.");
        String three = String.join(";", plain("a", 101, 0), plain("b", 99, 1), plain("c", 109, 0));
        fewest("one", Makers.bare(plain("a", 101, 0), plain("b", 100, 0)), 1);
        fewest("two", Makers.bare(plain("a", 101, 0), plain("b", 99, 1)), 2);
        fewest("three", Makers.bare(three), 3);
        fewest("four", Makers.bare(three, plain("d", 101, 0)), -2);
        fewest("the last three", Makers.bare(plain("e", 100, 0), plain("f", 100, 0), plain("g", 100, 0), three), 3);
        // One pin mends six: the pulls do the rest.
        fewest("one for six", Makers.bare(plain("a", 101, 0), plain("b", 99, 0), plain("c", 98, 0),
            plain("d", 97, 0), plain("e", 96, 0), plain("f", 99, 0),
            "pull a b 1;pull a c 2;pull a d 3;pull a e 4;pull a f 1"), 1);
    }

    private void row(String what, SecondFitting x, int... row) {
        for (int s = 0; s < row.length; s++) {
            told.fine(x, what + ", at " + s, x.pinOf(0, s), row[s]);
        }
    }

    private void firstOfLikeRows() {
        told.terms("of like ones the first: by PINS of seams 0, 1, .. (0 if none), the least first.");
        row("in, the least", Makers.within(1, plain("a", 102, 9)), -3);
        row("out, the least", Makers.within(1, plain("a", 98, 9)), 1);
        row("in at the first ahead of out at the second",
            Makers.within(1, plain("a", 102, 9), plain("b", 100, 9), "pull b a 1"), -3, 0);
        row("in at the second ahead of out at the first",
            Makers.within(1, plain("a", 98, 9), plain("b", 100, 9), "pull b a 1"), 0, -1);
        row("two out, the least of each", Makers.within(1, plain("a", 98, 9), plain("b", 98, 9),
            plain("c", 102, 0), "pull a c 1;pull b c 1"), 1, 1, 0);
        row("in at the third ahead of out at the second", Makers.within(1, plain("a", 99, 9), plain("b", 99, 9),
            plain("c", 102, 0), "pull a c 1;pull b c 1"), 0, 0, -3);
        row("out at the second ahead of out at the first", Makers.within(1, plain("a", 99, 9), plain("b", 99, 9),
            striped("c", 102, 0), "pull a c 1;pull b c 1;pull c a 4"), 0, 1, 0);
        row("two", Makers.within(1, plain("a", 102, 9), plain("b", 98, 9)), -3, 1);
        row("an even one", Makers.within(1, striped("a", 104, 0)), -4);
        row("an even one out", Makers.within(1, striped("a", 97, 9)), 2);
    }

    private void pinOf() {
        told.of(21, "The PIN at a seam by it; 0 none.");
        row("none", Makers.bare(plain("a", 100, 9), plain("b", 100, 9)), 0, 0);
        row("three", Makers.bare(plain("a", 109, 0), plain("b", 100, 9), plain("c", 91, 9),
            plain("d", 100, 9), plain("e", 100, 9), striped("f", 92, 8)), -9, 0, 9, 0, 0, 8);
        row("by -1", Makers.bare(plain("a", 101, 9)), -1);
        // What there is NOW counts, whatever was asked for ahead of it.
        SecondFitting x = Makers.bare(plain("a", 101, 9), plain("b", 102, 9));
        x.mark();
        row("both", x, -1, -2);
        x.pin(0, -1);
        row("pinned", x, 0, -2);
        told.fine(x, "pinned, how many", x.fewest(0), 1);
        x.undo();
        row("undone", x, -1, -2);
        told.fine(x, "undone, how many", x.fewest(0), 2);
        x.pin(1, -2);
        row("pinned", x, -1, 0);
        x.back(0);
        row("gone back", x, -1, -2);
        Check.suitOf(x, Makers.BARE + plain("a", 100, 0));
        row("another suit", x, 0);
        told.fine(x, "another suit, how many", x.fewest(0), 0);
    }

    private void best(String what, SecondFitting x, int seam, int by, int leaves) {
        told.fine(x, what + ", its seam", x.best(0), seam);
        told.fine(x, what + ", by", x.bestBy(0), by);
        told.fine(x, what + ", leaves", x.bestLeaves(0), leaves);
    }

    private void best() {
        told.terms("BEST PIN: of all single ones (and none) that by which all that is AMISS standing,"
            + " without signs, together is least;");
        best("in by 9", Makers.bare(plain("a", 120, 0)), 0, -9, 11);
        best("out by 9", Makers.bare(plain("a", 80, 20)), 0, 9, 11);
        best("out by what is left", Makers.bare(plain("a", 90, 3)), 0, 3, 7);
        best("out by what is even", Makers.bare(striped("a", 90, 3)), 0, 2, 8);
        best("in by what is even", Makers.bare(striped("a", 120, 0)), 0, -8, 12);
        best("where it is most", Makers.bare(plain("a", 101, 0), plain("b", 95, 5)), 1, 5, 1);
        best("standing alone", Makers.bare(Makers.seam("a", "pulling", 100, 9)), -2, 0, 0);
        best("standing alone", Makers.bare(Makers.seam("a", "worn", 102, 9)), 0, -2, 0);
        best("by a pull", Makers.bare(plain("a", 101, 0), plain("b", 96, 0), "pull a b 4"), 0, -1, 0);
        told.of(22, "BEST PIN: its seam; -2 none.");
        best("nothing is amiss", Makers.bare(plain("a", 100, 9)), -2, 0, 0);
        best("nothing is left", Makers.bare(plain("a", 99, 0)), -2, 0, 1);
        best("it pulls more amiss", Makers.bare(plain("a", 101, 0), plain("b", 100, 0), "pull a b 2"), -2, 0, 1);
        told.of(23, "By how much (0 if none).");
        told.due("in by 1", Makers.bare(plain("a", 101, 0)).bestBy(0), -1);
        told.due("none", Makers.bare(plain("a", 100, 0)).bestBy(99), 0);
        told.of(24, "What is AMISS together then.");
        told.due("nothing", Makers.bare(plain("a", 101, 0)).bestLeaves(0), 0);
        SecondFitting x = Makers.bare(plain("a", 101, 9), "feast 99 chance 0");
        told.due("on the feast", x.bestLeaves(99), 0);
        told.due("on the feast none", x.best(99), -2);
        told.due("on another day again", x.best(98), 0);
        x.pin(0, -1);
        best("as it is NOW", x, -2, 0, 0);
        x.undo();
        best("as it is again", x, 0, -1, 0);
    }

    private void bestOfLikeOnes() {
        told.terms("of like ones none, then the first seam, then the least.");
        best("none", Makers.bare(plain("a", 101, 0), plain("b", 100, 0), "pull a b 1"), -2, 0, 1);
        best("the first seam", Makers.bare(plain("a", 99, 9), plain("b", 101, 9)), 0, 1, 1);
        best("the first seam, though the pin is greater", Makers.bare(plain("a", 98, 9), plain("b", 102, 9)), 0, 2, 2);
        best("the least in", Makers.bare(plain("a", 102, 0), plain("b", 96, 0), "pull a b 1"), 0, -4, 2);
        best("the least out", Makers.bare(plain("a", 98, 9), plain("b", 104, 0), "pull a b 1"), 0, 2, 2);
        best("the least of a striped one", Makers.bare(striped("a", 103, 0)), 0, -4, 1);
    }

    private void bestAll(String what, SecondFitting x, int seam, int by, int leaves) {
        told.fine(x, what + ", its seam", x.bestAll(0), seam);
        told.fine(x, what + ", by", x.bestAllBy(0), by);
        told.fine(x, what + ", leaves", x.bestAllLeaves(0), leaves);
    }

    private void bestAll() {
        told.terms("BEST PIN OF ALL POSES: likewise, but that by which the greatest of what is AMISS together"
            + " in each POSE is least.");
        // 0, 0 and 3: by 1 the three have 1, 1 and 2, by 2 they have 2, 2 and 1: like ones, and 1 is the least.
        bestAll("arms up", Makers.bare(Makers.seam("a", "pulling", 100, 9)), 0, 1, 2);
        bestAll("sitting", Makers.bare(Makers.seam("a", "worn", 100, 9)), 0, 1, 1);
        bestAll("as amiss either way", Makers.bare(Makers.seam("a", "worn", 101, 9)), -2, 0, 1);
        bestAll("nothing is left", Makers.bare(Makers.seam("a", "worn", 100, 0)), -2, 0, 2);
        bestAll("in by 9", Makers.bare(Makers.seam("a", "worn", 120, 0)), 0, -9, 11);
        // 30, 28 and 27: the second in by 9 leaves 21, 19 and 18, the first 21, 19 and 22.
        bestAll("standing", Makers.bare(Makers.seam("a", "pulling", 110, 0), Makers.seam("b", "worn", 120, 0)),
            1, -9, 21);
        bestAll("the first seam", Makers.bare(plain("a", 101, 0), plain("b", 101, 0)), 0, -1, 1);
        told.of(25, "BEST PIN OF ALL POSES: its seam; -2 none.");
        told.due("none", Makers.bare(plain("a", 100, 9)).bestAll(0), -2);
        told.due("the second", Makers.bare(plain("a", 100, 9), Makers.seam("b", "worn", 100, 9)).bestAll(0), 1);
        told.of(26, "By how much (0 if none).");
        told.due("none", Makers.bare(plain("a", 100, 9)).bestAllBy(0), 0);
        told.due("in by 1", Makers.bare(plain("a", 101, 9)).bestAllBy(0), -1);
        told.of(27, "The greatest of what is AMISS together in each POSE then.");
        told.due("nothing", Makers.bare(plain("a", 100, 9)).bestAllLeaves(0), 0);
        told.due("with arms up", Makers.bare(Makers.seam("a", "pulling", 98, 0)).bestAllLeaves(0), 5);
        SecondFitting x = Makers.bare(Makers.seam("a", "pulling", 98, 2), "feast 7 chance 0");
        told.due("out by what is left", x.bestAllBy(0), 2);
        told.due("out by what is left", x.bestAllLeaves(0), 3);
        told.due("on the feast", x.bestAllLeaves(7), 4);
    }

    private void reach() {
        told.terms("REACH of a seam: all seams to which a PIN there goes on by pulls, and pulls at these, and so on,"
            + " itself too.");
        String six = Makers.six(100, 100);
        SecondFitting alone = Makers.bare(six);
        SecondFitting chain = Makers.bare(six, "pull f e 1;pull e d 1;pull d c 1;pull c b 1;pull b a 1");
        SecondFitting ring = Makers.bare(six, "pull a b 1;pull b c 1;pull c d 1;pull d e 1;pull e f 1;pull f a 1");
        for (int s = 0; s < 6; s++) {
            told.due("itself alone", alone.reach(s), 1 << s);
            told.due("a chain", chain.reach(s), (2 << s) - 1);
            told.due("a ring", ring.reach(s), 63);
        }
        told.of(28, "REACH, as bits.");
        SecondFitting x = Makers.bare(six, "pull a f 1;pull c a 4");
        int[] due = {33, 2, 37, 8, 16, 32};
        for (int s = 0; s < 6; s++) {
            told.fine(x, "of " + s, x.reach(s), due[s]);
        }
    }

    private void settles(String what, SecondFitting x, int rounds) {
        told.fine(x, what, x.settles(0), rounds);
    }

    private void byEye() {
        told.terms("BY EYE: in an order of seams each is PINNED so that nothing is AMISS there standing on a day");
        settles("in", Makers.bare(plain("a", 101, 0)), 1);
        settles("out", Makers.bare(plain("a", 99, 1)), 1);
        settles("standing", Makers.bare(Makers.seam("a", "worn", 102, 0), Makers.seam("b", "pulling", 103, 0)), 1);
        SecondFitting x = Makers.bare(plain("a", 101, 0), "feast 99 chance 0");
        told.due("on a day", x.settles(99), 0);
        // Not only till it is within: the first is pinned by 3, and then pulls the second by as much.
        settles("so that nothing is amiss", Makers.within(1, plain("a", 103, 0), plain("b", 96, 0), "pull a b 1"), 1);
        told.terms("(out no farther than is left, either way by 9 at most;");
        settles("all that is left", Makers.bare(plain("a", 95, 5)), 1);
        settles("less is left", Makers.bare(plain("a", 95, 4)), -2);
        settles("less is left, within", Makers.within(1, plain("a", 95, 4)), 1);
        settles("in by 9", Makers.bare(plain("a", 109, 0)), 1);
        settles("in by 10", Makers.bare(plain("a", 110, 0)), 2);
        settles("out by 9", Makers.bare(plain("a", 91, 9)), 1);
        settles("out by 10", Makers.bare(plain("a", 90, 10)), 2);
        settles("out by 20", Makers.bare(plain("a", 80, 20)), 3);
        settles("out by 21", Makers.bare(plain("a", 79, 20)), -2);
        told.terms("a striped one then by an even one, one less out, one less in, if it would be odd),");
        settles("in by 1", Makers.bare(striped("a", 101, 0)), -2);
        settles("in by 3, one less", Makers.within(1, striped("a", 103, 0)), 1);
        settles("out by 3, one less", Makers.within(1, striped("a", 97, 9)), 1);
        settles("out by 3 of 2", Makers.within(1, striped("a", 97, 2)), 1);
        settles("out by 2 of 1", Makers.within(1, striped("a", 98, 1)), -2);
        settles("in by 9 at most, then one less", Makers.bare(striped("a", 110, 0)), 2);
        settles("in by 16", Makers.bare(striped("a", 116, 0)), 2);
        settles("in by 18", Makers.bare(striped("a", 118, 0)), 3);
        settles("out by 6 of 5, then one less", Makers.within(2, striped("a", 94, 5)), 1);
        settles("out by 6 of 5, then one less", Makers.within(1, striped("a", 94, 5)), -2);
    }

    private void rounds() {
        told.terms("one behind the other, round and round: SETTLES behind as many rounds (0 .. 20) as it takes till"
            + " IT FITS"
            + " standing.");
        settles("at once", Makers.bare(plain("a", 100, 0)), 0);
        settles("at once, within", Makers.within(9, plain("a", 109, 0), plain("b", 91, 0)), 0);
        settles("one behind the other", Makers.bare(plain("a", 101, 0), plain("b", 100, 0), "pull a b 1"), 1);
        settles("round and round", Makers.bare(plain("a", 100, 0), plain("b", 101, 0), "pull b a 1"), 2);
        settles("19 rounds", Makers.bare(plain("a", 271, 0)), 19);
        settles("20 rounds", Makers.bare(plain("a", 272, 0)), 20);
        settles("20 rounds whole", Makers.bare(plain("a", 280, 0)), 20);
        settles("21 rounds", Makers.bare(plain("a", 281, 0)), -2);
        settles("never", Makers.bare(plain("a", 101, 9), plain("b", 100, 9), "pull a b 1;pull b a 1"), -2);
        roundsAlike();
        SecondFitting x = Makers.bare(plain("a", 272, 0));
        x.settles(0);
        told.due("nothing is pinned by it", x.seam(0, 2), 272);
        told.due("nothing can be undone", x.size(10), 0);
        told.of(29, "SETTLES by seams in their order: rounds; -2 it doesn't.");
        settles("by seams", Makers.bare(plain("a", 104, 0), plain("b", 97, 3), "pull b a 1"), 2);
        settles("it doesn't", Makers.bare(plain("a", 99, 0)), -2);
    }

    /** Rounds that are like the one ahead of them in all pins, and settle nevertheless, or don't. */
    private void roundsAlike() {
        // Each is pinned out by 2 and pulls the other back, till of the second just 1 is left.
        settles("till no more is left",
            Makers.within(1, plain("a", 98, 17), plain("b", 100, 7), "pull a b 1;pull b a 1"), 4);
        // The third and the fourth are pinned in by 2 in the second round and in the third; the second, which can't be
        // pinned, is pulled larger by 2 in each: -5, -3, -1.
        settles("pulled till it fits", Makers.within(2, plain("a", 104, 0), striped("b", 95, 1), striped("c", 100, 0),
            striped("d", 98, 0), striped("e", 98, 0),
            "pull c b 1;pull d c 1;pull e c 1;pull e a 1;pull c d 1;pull b e 1;pull a d 1"), 3);
        // 9 and -10: the first is pinned by 9, the second is 17 then, and is pinned by 9: 9 and 8. It would grow on.
        SecondFitting x = Makers.within(9, plain("a", 109, 0), plain("b", 90, 0), "pull a b 3;pull b a 1");
        for (int times = 0; times < 3; times++) {
            settles("one round, then never more", x, 1);
            told.due("by the best order, too", x.orders(0), 1);
            x.days(1);
        }
        settles("it grows on", Makers.within(0, plain("a", 109, 0), plain("b", 90, 0), "pull a b 3;pull b a 1"), -2);
        settles("striped ones grow on", Makers.within(0, striped("a", 110, 0), striped("b", 110, 0),
            "pull a b 2;pull b a 2"), -2);
        settles("in and in again", Makers.within(0, plain("a", 118, 0), striped("b", 116, 0)), 2);
    }

    private void order(String what, SecondFitting x, int rounds, int... order) {
        told.fine(x, what, x.orders(0), rounds);
        for (int i = 0; i < order.length; i++) {
            told.fine(x, what + ", at " + i, x.orderAt(0, i), order[i]);
        }
    }

    private void orders() {
        told.terms("BEST ORDER: which settles soonest, the first by seams.");
        order("all are alike", Makers.bare(plain("a", 101, 0), plain("b", 101, 0), plain("c", 101, 0)), 1, 0, 1, 2);
        order("the second first", Makers.bare(plain("a", 104, 0), plain("b", 97, 3), "pull b a 1"), 1, 1, 0);
        order("the last first", Makers.bare(plain("a", 101, 0), plain("b", 101, 0), plain("c", 101, 0),
            "pull c a 1"), 1, 1, 2, 0);
        String four = String.join(";", plain("a", 101, 0), plain("b", 101, 0), plain("c", 101, 0), plain("d", 101, 0));
        order("b, a", Makers.bare(four, "pull b a 1"), 1, 1, 0, 2, 3);
        order("c, b", Makers.bare(four, "pull c b 1"), 1, 0, 2, 1, 3);
        order("d, c", Makers.bare(four, "pull d c 1"), 1, 0, 1, 3, 2);
        order("d, b", Makers.bare(four, "pull d b 1"), 1, 0, 2, 3, 1);
        order("c, a", Makers.bare(four, "pull c a 1"), 1, 1, 2, 0, 3);
        order("d, a", Makers.bare(four, "pull d a 1"), 1, 1, 2, 3, 0);
        order("d ahead of all", Makers.bare(four, "pull d a 1;pull d b 1;pull d c 1"), 1, 3, 0, 1, 2);
        order("b, a and d, c", Makers.bare(four, "pull b a 1;pull d c 1"), 1, 1, 0, 3, 2);
        order("c, b, a", Makers.bare(four, "pull c b 1;pull b a 1"), 1, 2, 1, 0, 3);
        order("the last of all orders", Makers.bare(plain("a", 101, 0), plain("b", 100, 0), plain("c", 100, 0),
            plain("d", 100, 0), plain("e", 100, 0), plain("f", 101, 0),
            "pull f e 1;pull e d 1;pull d c 1;pull c b 1;pull b a 1"), 1, 5, 4, 3, 2, 1, 0);
        told.of(30, "BEST ORDER: rounds; -2 none settles.");
        told.due("at once", Makers.bare(plain("a", 100, 0)).orders(0), 0);
        told.due("20 rounds", Makers.bare(plain("a", 280, 0)).orders(0), 20);
        told.due("21 rounds", Makers.bare(plain("a", 281, 0)).orders(0), -2);
        told.due("none settles", Makers.bare(plain("a", 99, 0), plain("b", 100, 0)).orders(0), -2);
        SecondFitting x = Makers.bare(plain("a", 104, 0), plain("b", 97, 3), "pull b a 1;feast 9 chance 0");
        x.mark();
        told.fine(x, "as it is", x.orders(0), 1);
        told.fine(x, "on another day", x.orders(9), -2);
        x.pin(1, -1);
        told.fine(x, "pinned", x.orders(0), 1);
        x.pin(0, -9);
        told.fine(x, "pinned again", x.orders(0), 1);
        x.undo();
        x.undo();
        told.fine(x, "undone", x.orders(9), -2);
        x.pin(0, -9);
        told.fine(x, "pinned again", x.orders(9), -2);
        x.back(0);
        told.fine(x, "gone back", x.orders(0), 1);
        Check.suitOf(x, Makers.BARE + plain("a", 100, 0));
        told.fine(x, "another suit", x.orders(0), 0);
        told.of(31, "The i-th seam of it.");
        order("one seam", Makers.bare(plain("a", 280, 0)), 20, 0);
        order("at once, by seams", Makers.bare(plain("a", 100, 0), plain("b", 100, 0), plain("c", 100, 0),
            plain("d", 100, 0), plain("e", 100, 0), plain("f", 100, 0)), 0, 0, 1, 2, 3, 4, 5);
    }
}
