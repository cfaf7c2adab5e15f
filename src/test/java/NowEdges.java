import java.util.NoSuchElementException;

/** Promises 1 to 18, and Terms II: the suit that there is, and how it is now. */
final class NowEdges {
    private static final int BLANKS = 0x20202020;

    private final Sentences told;

    NowEdges(Sentences told) {
        this.told = told;
    }

    void all() {
        newObject();
        feed();
        suit();
        fault();
        where();
        bodies();
        sizes();
        poses();
        fits();
        pins();
        stripes();
        seamAndPull();
        amiss();
        until();
        worst();
    }

    private void newObject() {
        told.of(1, "No SUIT.");
        SecondFitting x = new SecondFitting();
        told.due("trouble", x.trouble(), 0);
        told.due("fault", x.fault(), 0);
        told.due("where", x.where(), -1);
        for (int what = 0; what <= 12; what++) {
            told.due("size(" + what + ")", x.size(what), 0);
        }
        told.due("a seam", x.seam(0, 0), -1);
        told.due("a seam, trouble", x.trouble(), 1);
        told.terms("The constants: `NONE = -1`: There is none; refused.");
        told.due("NONE", SecondFitting.NONE, -1);
    }

    private static void feedBlanks(SecondFitting x, int times) {
        for (int i = 0; i < times; i++) {
            x.feed(BLANKS, BLANKS, BLANKS, BLANKS, BLANKS);
        }
    }

    private void feed() {
        told.of(2, "Twenty bytes come behind THE TAPE, of each number the highest first: how many it has;");
        for (int place = 0; place < 20; place++) {
            for (int sign : new int[] {'?', 0, 127, 128, 255}) {
                int[] five = {BLANKS, BLANKS, BLANKS, BLANKS, BLANKS};
                int shift = 24 - 8 * (place % 4);
                five[place / 4] = BLANKS & ~(255 << shift) | sign << shift;
                SecondFitting x = new SecondFitting();
                feedBlanks(x, 3);
                told.due("bytes", x.feed(five[0], five[1], five[2], five[3], five[4]), 80);
                x.suit(80);
                told.due("byte " + sign + " at " + place, x.where(), 60 + place);
            }
        }
        SecondFitting x = new SecondFitting();
        for (int times = 1; times <= 50; times++) {
            told.due("feed " + times, x.feed(-1, Integer.MIN_VALUE, Integer.MAX_VALUE, 0, 1), 20 * times);
        }
        told.of(2, "NONE, and none comes, if there would be more than 1,000.");
        for (int times = 0; times < 3; times++) {
            told.due("above", x.feed(0, 0, 0, 0, 0), -1);
            told.due("bytes", x.size(12), 1000);
        }
        told.due("trouble", x.trouble(), 0);
        SecondFitting y = new SecondFitting();
        feedBlanks(y, 49);
        y.feed(BLANKS, BLANKS, BLANKS, BLANKS, 0x2020203f);
        told.due("above", y.feed(0x3f3f3f3f, 0x3f3f3f3f, 0x3f3f3f3f, 0x3f3f3f3f, 0x3f3f3f3f), -1);
        y.suit(1000);
        told.due("the last byte is as it was", y.where(), 999);
        told.due("from the first on again", y.feed(0, 0, 0, 0, 0), 20);
        // A tape that is full stays so behind a suit that is refused by 2.
        told.due("refused", x.suit(1001), -1);
        told.due("full still", x.feed(0, 0, 0, 0, 0), -1);
        told.due("trouble stays that of suit", x.trouble(), 2);
    }

    private void suit() {
        told.of(3, "The first n bytes of THE TAPE (it is empty then) are the SUIT from now on"
            + " (day 0, nothing PINNED, no WEAR; nothing to undo, no MARKS): how many seams.");
        SecondFitting x = Makers.full();
        x.suit(1000);
        told.fine(x, "one seam", Check.suitOf(x, Makers.BARE + Makers.plain("s", 90, 7)), 1);
        int[] sizes = {0, 50, 1, 1, 0, 0, 0, 0, 0, 0, 0, 0, 0};
        for (int what = 0; what < sizes.length; what++) {
            told.due("size(" + what + ")", x.size(what), sizes[what]);
        }
        told.due("its size", x.seam(0, 2), 90);
        told.due("left", x.seam(0, 3), 7);
        told.due("none of the old seams", x.seam(1, 0), -1);
        told.due("nothing to undo", x.undo(), false);
        told.due("no mark", x.back(0), false);
        told.due("nothing before", x.before(), -2);
        // Of a tape that has more, the first n bytes alone; none of it is there any more.
        String text = Makers.BARE + Makers.plain("s", 90, 7);
        Check.feedText(x, text + ";seam t plain at m size 90 left 7");
        told.fine(x, "the first n", x.suit(text.length()), 1);
        told.due("bytes", x.size(12), 0);
        // Nothing of suits ahead of it, however many there were.
        SecondFitting y = Makers.full();
        y.suit(1000);
        for (int times = 0; times < 3; times++) {
            told.fine(y, "one seam", Check.suitOf(y, Makers.BARE + Makers.plain("s", 90, 7)), 1);
            told.due("pulls, stripes, feasts, READ", y.size(4) + y.size(5) + y.size(6) + y.size(7), 0);
            told.due("reach", y.reach(0), 1);
            told.fine(y, "all there is room for", Check.suitOf(y, Makers.BARE + Makers.six(100, 100)), 6);
            told.due("reach of the first", y.reach(0), 1);
            told.fine(y, "the coat", Check.suitOf(y, Makers.COAT), 4);
        }
        told.of(3, "NONE: 2 (THE TAPE stays);");
        for (int n : new int[] {-1, 41, 1000, 1001, Integer.MIN_VALUE, Integer.MAX_VALUE}) {
            told.refused(Makers::worked, "suit(" + n + ")", one -> one.suit(n), -1, 2);
            told.refused(Makers::blank, "suit(" + n + ")", one -> one.suit(n), -1, 2);
        }
        told.refused(SecondFitting::new, "suit(1) of an empty tape", one -> one.suit(1), -1, 2);
        told.refused(Makers::full, "suit(1001) of a full tape", one -> one.suit(1001), -1, 2);
        told.of(3, "4 (the SUIT stays).");
        told.faulty(Makers::worked, "suit within 1", 1, 13);
        told.faulty(Makers::full, Makers.BARE + "seam s plain at m size 19 left 0", 4, Makers.BARE.length() + 23);
        told.faulty(Makers::blank, "suit within 1", 1, 13);
        told.faulty(Makers::worked, "", 1, 0);
        x = Makers.worked();
        told.due("a part of the tape", x.suit(3), -1);
        told.due("a part of the tape, trouble", x.trouble(), 4);
        told.due("the rest is gone, too", x.size(12), 0);
    }

    private void fault() {
        told.of(4, "The FAULT of the latest suit() not refused by 2; 0 without one.");
        SecondFitting x = new SecondFitting();
        told.due("of none", x.fault(), 0);
        x.suit(1);
        told.due("behind a refusal by 2", x.fault(), 0);
        Check.suitOf(x, "suit within 10");
        told.due("by 4", x.fault(), 4);
        x.suit(-1);
        told.due("behind a refusal by 2", x.fault(), 4);
        x.seam(0, 0);
        told.due("behind another call", x.fault(), 4);
        Check.suitOf(x, "measure");
        told.due("of the latest", x.fault(), 6);
        Check.suitOf(x, Makers.COAT);
        told.due("without one", x.fault(), 0);
        x.suit(7);
        told.due("without one, behind a refusal by 2", x.fault(), 0);
    }

    private void where() {
        told.of(5, "Its place, if the latest call that may be refused was by 4; NONE else.");
        SecondFitting x = new SecondFitting();
        told.due("of none", x.where(), -1);
        Check.suitOf(x, "suit within 10");
        told.due("its place", x.where(), 12);
        x.feed(0, 0, 0, 0, 0);
        x.fault();
        x.size(12);
        x.size(13);
        x.trouble();
        try {
            x.led(0);
        } catch (NoSuchElementException e) {
            told.due("behind calls without a number", x.where(), 12);
        }
        told.due("refused by 2", x.suit(21), -1);
        told.due("behind a refusal by 2", x.where(), -1);
        told.due("the fault stays", x.fault(), 4);
        x.suit(20);
        told.due("the first byte", x.where(), 0);
        x.undo();
        told.due("behind a refusal by 6", x.where(), -1);
        Check.suitOf(x, Makers.COAT);
        told.due("of one without", x.where(), -1);
        Check.suitOf(x, "");
        told.due("the end of nothing", x.where(), 0);
        x.meets();
        told.due("behind a call that isn't refused", x.where(), -1);
    }

    private void bodies() {
        told.terms("BODY of a measure on a day: as told, and grows more for each feast up to that day, that one too.");
        SecondFitting x = Makers.made("suit within 0 wedding 5;measure m body 40 holds 20 grows 9;"
            + "measure k body 400 holds 0 grows 0;" + Makers.plain("s", 100, 0),
            "feast 0 chance 0;feast 9 chance 0;feast 10 chance 100;feast 50 chance 1;feast 98 chance 1"
                + ";feast 99 chance 1");
        int[][] days = {{0, 49}, {8, 49}, {9, 58}, {10, 67}, {49, 67}, {50, 76}, {97, 76}, {98, 85}, {99, 94}};
        for (int[] day : days) {
            told.due("on " + day[0], x.body(0, day[0]), day[1]);
            told.due("of one that doesn't grow", x.body(1, day[0]), 400);
        }
        told.of(8, "BODY of a measure on a day (0 .. 99).");
        told.fine(x, "on 0", x.body(0, 0), 49);
        told.fine(x, "on 99", x.body(0, 99), 94);
        told.fine(x, "the last measure", x.body(1, 99), 400);
        x.days(60);
        told.fine(x, "on a day that is past", x.body(0, 0), 49);
        told.terms("MEASURED: BODY less what it holds.");
        told.due("it holds 20", x.measured(0, 99), 74);
        told.due("it holds nothing", x.measured(1, 99), 400);
        told.of(9, "MEASURED.");
        told.fine(x, "on 0", x.measured(0, 0), 29);
        told.fine(x, "on 9", x.measured(0, 9), 38);
        told.of(10, "MEASURED with a slip: a DRAW mod 3 more by a SEED (0 .. 65,536), less 1.");
        // 74; 75 * 872 + 74 = 65,474; the next one goes round: 65,549 is 12; -75 + 74 = -1 is 65,536.
        told.fine(x, "by 0", x.taped(0, 0, 0), 30);
        told.fine(x, "by 872", x.taped(0, 0, 872), 30);
        told.fine(x, "by 873", x.taped(0, 0, 873), 28);
        told.fine(x, "by 65,536", x.taped(0, 0, 65536), 29);
        told.fine(x, "by 0 again", x.taped(0, 0, 0), 30);
    }

    private void sizes() {
        told.terms("SIZE of a seam NOW; at first as told.");
        SecondFitting x = Makers.bare(Makers.plain("a", 20, 20), Makers.seam("b", "worn", 500, 0));
        told.due("at first", x.seam(0, 2), 20);
        x.pin(0, 9);
        told.due("pinned", x.seam(0, 2), 29);
        x.undo();
        told.due("as at first", x.seam(0, 2), 20);
        told.terms("A seam that is worn GIVES 1 for each ten days of WEAR so far, which is part of its SIZE.");
        int[][] wears = {{9, 500}, {1, 501}, {9, 501}, {1, 502}, {60, 508}, {18, 509}, {1, 509}};
        for (int[] wear : wears) {
            x.wear(wear[0]);
            told.due("days of wear " + x.size(9), x.seam(1, 2), wear[1]);
            told.due("a plain one gives nothing", x.seam(0, 2), 20);
        }
        told.due("nothing is taken from what is left", x.seam(1, 3), 0);
        SecondFitting y = Makers.bare("seam a worn at m size 90 left 0");
        y.days(60);
        told.due("days alone", y.seam(0, 2), 90);
        for (String kind : new String[] {"plain", "striped", "pulling"}) {
            SecondFitting z = Makers.bare(Makers.seam("a", kind, 90, 0));
            z.wear(60);
            told.due(kind + " gives nothing", z.seam(0, 2), 90);
        }
    }

    private void poses() {
        told.terms("POSES: 0 standing, 1 sitting, 2 arms up:"
            + " a pulling seam needs 3 more with arms up, a worn one 2 more sitting.");
        int[][] due = {{0, 0, 0}, {0, 0, 0}, {0, 0, -3}, {0, -2, 0}};
        String[] kinds = {"plain", "striped", "pulling", "worn"};
        for (int kind = 0; kind < kinds.length; kind++) {
            SecondFitting x = Makers.bare(Makers.seam("a", kinds[kind], 100, 0));
            for (int pose = 0; pose < 3; pose++) {
                told.due(kinds[kind] + " in " + pose, x.amiss(0, 0, pose), due[kind][pose]);
            }
        }
        told.terms("AMISS of a seam on a day in a POSE: SIZE less BODY of its measure less what the POSE needs.");
        SecondFitting x = Makers.made("suit within 0 wedding 5;measure m body 400 holds 20 grows 9;"
            + Makers.seam("a", "pulling", 20, 0), Makers.seam("b", "worn", 500, 0), "feast 99 chance 0");
        told.due("too little", x.amiss(0, 98, 2), -383);
        told.due("too little on the feast", x.amiss(0, 99, 2), -392);
        told.due("too much", x.amiss(1, 98, 1), 98);
        told.due("too much standing", x.amiss(1, 98, 0), 100);
    }

    private void fits() {
        told.terms("IT FITS if none is amiss by more than within, too much or too little.");
        for (int within : new int[] {0, 1, 9}) {
            int[][] due = {{-within - 1, 0}, {-within, 7}, {within, 7}, {within + 1, 0}};
            for (int[] off : due) {
                SecondFitting x = Makers.within(within, Makers.plain("a", 100, 0), Makers.plain("b", 100 + off[0], 0));
                told.due("within " + within + ", amiss " + off[0], x.fits(0), off[1]);
                told.due("within " + within + ", wrong " + off[0], x.wrong(0, 0), off[1] == 0 ? 2 : 0);
            }
        }
        told.of(14, "POSES in which IT FITS, as bits.");
        SecondFitting x = Makers.within(2, Makers.seam("p", "pulling", 101, 0), Makers.seam("w", "worn", 100, 0));
        told.fine(x, "all", x.fits(0), 7);
        x = Makers.within(2, Makers.seam("p", "pulling", 100, 0), Makers.seam("w", "worn", 100, 0));
        told.fine(x, "not with arms up", x.fits(0), 3);
        x = Makers.within(2, Makers.seam("p", "pulling", 101, 0), Makers.seam("w", "worn", 99, 0));
        told.fine(x, "not sitting", x.fits(99), 5);
        x = Makers.within(2, Makers.seam("p", "pulling", 103, 0));
        told.fine(x, "with arms up alone", x.fits(0), 4);
        x = Makers.within(2, Makers.plain("a", 103, 0));
        told.fine(x, "none", x.fits(0), 0);
        told.of(13, "Seams that are AMISS by more than within, as bits.");
        String six = Makers.six(103, 97);
        told.due("all six", Makers.within(2, six).wrong(0, 0), 63);
        told.due("none", Makers.within(3, six).wrong(0, 0), 0);
        String last = six.replace("f plain at m size 97", "f worn at m size 96");
        told.due("the last", Makers.within(3, last).wrong(0, 0), 32);
    }

    private void pins() {
        told.terms("A PIN at a seam by so many eighths (-9 .. 9, not 0):");
        int[][] due = {{-10, -1}, {-9, 91}, {-1, 99}, {0, -1}, {1, 101}, {9, 109}, {10, -1}};
        for (int[] by : due) {
            told.due("by " + by[0], Makers.bare(Makers.plain("a", 100, 20)).pin(0, by[0]), by[1]);
        }
        told.terms("out, if more than 0: no more than is left, which is so much less then;");
        SecondFitting x = Makers.bare(Makers.plain("a", 100, 5));
        told.due("more than is left", x.pin(0, 6), -1);
        told.due("all that is left", x.pin(0, 5), 105);
        told.due("nothing is left", x.seam(0, 3), 0);
        told.due("one more", x.pin(0, 1), -1);
        told.due("trouble", x.trouble(), 5);
        told.terms("in, if less: left is so much more then.");
        told.due("in where nothing is left", x.pin(0, -9), 96);
        told.due("so much more", x.seam(0, 3), 9);
        told.due("all of it out again", x.pin(0, 9), 105);
        x = Makers.bare(Makers.plain("a", 100, 20));
        for (int times = 1; times <= 12; times++) {
            told.due("in again", x.pin(0, -9), 100 - 9 * times);
            told.due("above what a text may tell", x.seam(0, 3), 20 + 9 * times);
        }
        told.due("a size below 0", x.seam(0, 2), -8);
        told.terms("A striped one by even ones alone.");
        for (int by = -9; by <= 9; by++) {
            if (by != 0) {
                told.due("by " + by, Makers.bare(Makers.seam("a", "striped", 100, 20)).pin(0, by),
                    by % 2 == 0 ? 100 + by : -1);
            }
        }
        told.terms("Its SIZE is so much more, that of each other one for which there is a pull so many eighths less"
            + " as PULL times the PIN (nothing is taken from what is left there).");
        x = Makers.bare(Makers.plain("a", 100, 9), Makers.seam("b", "striped", 100, 3), Makers.plain("c", 100, 3)
           , Makers.plain("d", 100, 3), "pull a b 4;pull b a 1;pull b c 1;pull a d 1");
        told.due("out by 9", x.pin(0, 9), 109);
        told.due("pulled by 4", x.seam(1, 2), 64);
        told.due("pulled by 1", x.seam(3, 2), 91);
        told.due("not by what is pulled", x.seam(2, 2), 100);
        told.due("nothing is taken", x.seam(1, 3), 3);
        told.due("in by 9", x.pin(0, -9), 100);
        told.due("as it was", x.seam(1, 2), 100);
        x.pin(0, -9);
        told.due("in goes the other way", x.seam(1, 2), 136);
    }

    private void stripes() {
        told.terms("STRIPE of two seams MEETS if SIZE of the first less that of the second, by 8, leaves WHOLE"
            + " (0 .. 7 also of what is below 0).");
        int[][] due = {{-17, 7}, {-16, 0}, {-9, 7}, {-8, 0}, {-7, 1}, {-1, 7},
            {0, 0}, {1, 1}, {7, 7}, {8, 0}, {9, 1}, {15, 7}};
        for (int[] off : due) {
            String seams = Makers.plain("a", 100 + off[0], 0) + ";" + Makers.plain("b", 100, 0) + ";stripe a b ";
            told.due("by " + off[0], Makers.bare(seams + off[1]).meets(), 1);
            told.due("by " + off[0] + " how it lies", Makers.bare(seams + off[1]).stripe(0, 3), off[1]);
            told.due("by " + off[0] + " not", Makers.bare(seams + (off[1] + 1) % 8).meets(), 0);
        }
        told.of(18, "Of a STRIPE 0 its first seam, 1 the second, 2 how it must lie, 3 how it lies NOW.");
        SecondFitting x = Makers.bare(Makers.plain("a", 100, 9), Makers.seam("b", "worn", 105, 0), "stripe b a 7");
        int[] row = {1, 0, 7, 5};
        for (int what = 0; what < 4; what++) {
            told.fine(x, "what " + what, x.stripe(0, what), row[what]);
        }
        x.pin(0, 6);
        told.fine(x, "pinned", x.stripe(0, 3), 7);
        x.wear(10);
        told.fine(x, "worn", x.stripe(0, 3), 0);
        told.of(43, "STRIPES that MEET NOW, as bits.");
        x = Makers.bare(Makers.plain("a", 100, 0), Makers.plain("b", 100, 0), Makers.plain("c", 101, 9),
            Makers.plain("d", 100, 0), "stripe a b 0;stripe c a 1;stripe b c 7;stripe d a 0");
        told.fine(x, "all four", x.meets(), 15);
        x.pin(2, 1);
        told.fine(x, "two of them", x.meets(), 9);
        x = Makers.bare(Makers.plain("a", 100, 0));
        told.fine(x, "none there", x.meets(), 0);
    }

    private void seamAndPull() {
        told.of(6, "Of a seam 0 KIND (0 plain, 1 striped, 2 pulling, 3 worn), 1 its measure, 2 SIZE, 3 what is left.");
        SecondFitting x = Makers.worked();
        int[][] due = {{0, 0, 99, 4}, {1, 0, 103, 4}, {2, 1, 61, 2}, {3, 1, 61, 3}};
        for (int s = 0; s < 4; s++) {
            for (int what = 0; what < 4; what++) {
                told.fine(x, "seam " + s + ", " + what, x.seam(s, what), due[s][what]);
            }
        }
        told.of(7, "PULL of a seam at another one; 0 none.");
        x = Makers.bare(Makers.plain("a", 100, 0), Makers.plain("b", 100, 0), Makers.plain("c", 100, 0),
            "pull a b 4;pull b a 1");
        int[][] pulls = {{0, 4, 0}, {1, 0, 0}, {0, 0, 0}};
        for (int s = 0; s < 3; s++) {
            for (int other = 0; other < 3; other++) {
                if (s != other) {
                    told.fine(x, "pull " + s + " at " + other, x.pull(s, other), pulls[s][other]);
                }
            }
        }
    }

    private void amiss() {
        told.of(11, "AMISS on a day in a POSE (too little is below 0).");
        SecondFitting x = Makers.coat();
        told.fine(x, "too little", x.amiss(0, 0, 0), -2);
        told.fine(x, "too much", x.amiss(1, 0, 0), 4);
        told.fine(x, "nothing", x.amiss(3, 0, 0), 0);
        x.pin(0, 1);
        // -1 is an answer here, no refusal.
        told.fine(x, "by -1", x.amiss(0, 0, 0), -1);
        told.of(12, "All that is AMISS, without signs, together.");
        x = Makers.bare(Makers.plain("a", 110, 0), Makers.plain("b", 90, 0));
        told.fine(x, "10 and -10", x.together(0, 0), 20);
        x = Makers.bare(Makers.plain("a", 100, 0));
        told.fine(x, "nothing", x.together(99, 0), 0);
    }

    private void until() {
        told.of(15, "The first day (NOW .. 99) on which it doesn't fit standing; -2.");
        SecondFitting x = Makers.bare(Makers.plain("a", 100, 9), "feast 99 chance 0");
        told.fine(x, "the last day", x.until(), 99);
        x.days(60);
        x.days(39);
        told.fine(x, "the last day NOW", x.until(), 99);
        x = Makers.bare(Makers.plain("a", 101, 9), "feast 30 chance 0");
        told.fine(x, "NOW", x.until(), 0);
        x.days(29);
        told.fine(x, "NOW, on 29", x.until(), 29);
        x.days(1);
        told.fine(x, "never more", x.until(), -2);
        x = Makers.bare(Makers.seam("a", "worn", 100, 0), Makers.seam("b", "pulling", 100, 0));
        told.fine(x, "standing it fits for ever", x.until(), -2);
    }

    private void worst() {
        told.of(16, "The seam that is most AMISS, without sign, in some POSE, the first such.");
        SecondFitting x = Makers.bare(Makers.plain("a", 98, 0), Makers.plain("b", 102, 0), Makers.plain("c", 98, 0));
        told.fine(x, "the first of like ones", x.worst(0), 0);
        x = Makers.bare(Makers.plain("a", 102, 0), Makers.seam("p", "pulling", 100, 0));
        told.fine(x, "with arms up", x.worst(0), 1);
        x = Makers.bare(Makers.plain("a", 103, 0), Makers.seam("p", "pulling", 100, 0));
        told.fine(x, "as much with arms up", x.worst(0), 0);
        x = Makers.bare(Makers.plain("a", 100, 0), Makers.plain("b", 100, 0));
        told.fine(x, "nothing is amiss", x.worst(0), 0);
        told.of(17, "The first POSE in which it is.");
        told.fine(x, "nothing is amiss", x.worstPose(0), 0);
        x = Makers.bare(Makers.seam("p", "pulling", 101, 0));
        told.fine(x, "arms up", x.worstPose(0), 2);
        x = Makers.bare(Makers.seam("p", "pulling", 102, 0));
        told.fine(x, "standing", x.worstPose(0), 0);
        x = Makers.bare(Makers.seam("w", "worn", 101, 0));
        told.fine(x, "as much standing as sitting", x.worstPose(0), 0);
        x = Makers.bare(Makers.seam("w", "worn", 100, 0));
        told.fine(x, "sitting", x.worstPose(0), 1);
    }
}
