import java.util.NoSuchElementException;

/** Each promise by hand: ordinary inputs, the edges that the document names, and wrong inputs. */
public final class PromisesTest {
    private static final String HEAD = "suit within 1 wedding 30;"
        + "measure chest body 100 holds 4 grows 2;measure arm body 60 holds 0 grows 0;";
    private static final String COAT = HEAD
        + "seam back plain at chest size 98 left 5;seam front striped at chest size 104 left 4;"
        + "seam sleeve pulling at arm size 61 left 2;seam knee worn at arm size 60 left 3;"
        + "pull back front 1;pull front sleeve 2;stripe back front 2;stripe sleeve knee 1;"
        + "feast 10 chance 50;feast 20 chance 20;read chest 0 97;read chest 15 101";
    // Nothing is amiss here but what is told behind it.
    private static final String BARE = "suit within 0 wedding 50;measure m body 100 holds 0 grows 1;";

    private static final Check CHECK = new Check();

    private PromisesTest() {
    }

    public static void main(String[] args) {
        newObject();
        feed();
        suit();
        forms();
        namesAndBounds();
        manyAndLacks();
        whereAndFault();
        seamAndPull();
        bodies();
        amiss();
        fitsAndUntil();
        worst();
        stripes();
        tryPin();
        fewest();
        best();
        bestAll();
        reach();
        settles();
        orders();
        enough();
        needAndLeave();
        visits();
        when();
        truly();
        widestAndJudge();
        part();
        meetBy();
        tight();
        months();
        pin();
        daysAndWear();
        beforeAndBetter();
        undo();
        marks();
        led();
        size();
        trouble();
        CHECK.end();
    }

    private static SecondFitting coat() {
        return Check.fitting(COAT);
    }

    private static String measure(String name) {
        return "measure " + name + " body 100 holds 0 grows 0";
    }

    private static String seam(String name, int size, int left) {
        return "seam " + name + " plain at m size " + size + " left " + left;
    }

    private static SecondFitting bare(String lines) {
        SecondFitting x = Check.fitting(BARE + lines);
        CHECK.due("no fault in " + lines, x.fault(), 0);
        return x;
    }

    private static void newObject() {
        SecondFitting x = new SecondFitting();
        for (int what = 0; what <= 12; what++) {
            CHECK.due("size(" + what + ") of a new one", x.size(what), 0);
        }
        CHECK.due("fault of a new one", x.fault(), 0);
        CHECK.due("where of a new one", x.where(), -1);
        CHECK.due("trouble of a new one", x.trouble(), 0);
        CHECK.due("NONE", SecondFitting.NONE, -1);
        String[] minusOne = {"seam", "pull", "body", "measured", "taped", "together", "wrong", "fits", "until", "worst",
            "worstPose", "stripe", "tryPin", "fewest", "best", "bestLeaves", "bestAll", "bestAllLeaves", "reach",
            "settles", "orders", "orderAt", "enough", "need", "leave", "visits", "visitAt", "when", "whenAmiss",
            "truly", "widest", "judge", "meets", "tight", "month", "months", "pin", "days", "wear", "before", "better",
            "mark"};
        for (String name : minusOne) {
            CHECK.refused(x, name + " without a suit", Calls.of(x, name, new int[] {0, 1, 0}), -1, 1);
            CHECK.refused(x, name + " without a suit", Calls.of(x, name, new int[] {-1, -100, -1}), -1, 1);
        }
        for (String name : new String[] {"amiss", "pinOf", "bestBy", "bestAllBy", "part", "meetBy"}) {
            CHECK.refused(x, name + " without a suit", Calls.of(x, name, new int[] {0, 0, 0}), -1000, 1);
        }
        CHECK.refused(x, "back without a suit", x.back(0) ? 1 : 0, 0, 1);
        CHECK.refused(x, "undo without a suit", x.undo() ? 1 : 0, 0, 6);
    }

    private static void feed() {
        SecondFitting x = new SecondFitting();
        for (int i = 1; i <= 50; i++) {
            CHECK.due("feed " + i, x.feed(0, 0, 0, 0, 0), 20 * i);
        }
        CHECK.due("feed beyond 1,000", x.feed(0, 0, 0, 0, 0), -1);
        CHECK.due("size(12) then", x.size(12), 1000);
        CHECK.due("feed has no number of its own", x.trouble(), 0);
        CHECK.refused(x, "suit(1001)", x.suit(1001), -1, 2);
        CHECK.due("tape stays", x.size(12), 1000);
        CHECK.refused(x, "suit(1000)", x.suit(1000), -1, 4);
        CHECK.due("where of the first byte", x.where(), 0);
        CHECK.due("tape is empty", x.size(12), 0);
        // The highest byte of each number comes first.
        x.feed('s' << 24 | 'u' << 16 | 'i' << 8 | 't', 0x20202020, 0x20202020, 0x20202020, 0x202020ff);
        CHECK.refused(x, "suit(20)", x.suit(20), -1, 4);
        CHECK.due("where of byte 255", x.where(), 19);
        CHECK.due("feed does not hide where", x.feed(0, 0, 0, 0, 0), 20);
        CHECK.due("where behind feed", x.where(), 19);
    }

    private static void suit() {
        SecondFitting x = coat();
        CHECK.due("trouble of a suit that is taken", x.trouble(), 0);
        x.pin(0, 1);
        x.wear(20);
        x.mark();
        Check.feedText(x, "suit");
        CHECK.refused(x, "suit(-1)", x.suit(-1), -1, 2);
        CHECK.refused(x, "suit(21)", x.suit(21), -1, 2);
        CHECK.due("tape stays", x.size(12), 20);
        CHECK.refused(x, "suit(20) of a part", x.suit(20), -1, 4);
        CHECK.due("tape is empty behind a fault", x.size(12), 0);
        CHECK.due("the suit stays", x.seam(0, 2), 99);
        CHECK.due("days of wear stay", x.size(9), 20);
        CHECK.due("acts stay", x.size(10), 2);
        CHECK.due("marks stay", x.size(11), 1);
        CHECK.fine(x, "the coat again", Check.suitOf(x, COAT), 4);
        CHECK.due("size of its back", x.seam(0, 2), 98);
        CHECK.due("day", x.size(8), 0);
        CHECK.due("wear", x.size(9), 0);
        CHECK.due("acts", x.size(10), 0);
        CHECK.due("marks", x.size(11), 0);
        // Only the first n bytes are read; the rest is gone too.
        Check.feedText(x, BARE + seam("s", 100, 0) + ";pull");
        CHECK.fine(x, "a part of the tape", x.suit((BARE + seam("s", 100, 0)).length()), 1);
        CHECK.due("tape is empty then", x.size(12), 0);
        CHECK.due("nothing of the old suit", x.size(4) + x.size(5) + x.size(7), 0);
        CHECK.due("no old pull", Check.suitOf(x, BARE + seam("s", 100, 0) + ";" + seam("t", 100, 0)), 2);
        CHECK.due("no old pull", x.pull(0, 1), 0);
    }

    private static void faulty(String text, int fault, int where) {
        SecondFitting x = new SecondFitting();
        CHECK.refused(x, "suit of " + text, Check.suitOf(x, text), -1, 4);
        CHECK.due("fault of " + text, x.fault(), fault);
        CHECK.due("where of " + text, x.where(), where);
    }

    /** A text that is at fault where its last word begins. */
    private static void faultyAtLast(String text, int fault) {
        faulty(text, fault, Math.max(text.lastIndexOf(' '), text.lastIndexOf(';')) + 1);
    }

    private static void taken(String text, int seams) {
        SecondFitting x = new SecondFitting();
        CHECK.fine(x, "suit of " + text, Check.suitOf(x, text), seams);
        CHECK.due("fault of " + text, x.fault(), 0);
        CHECK.due("where of " + text, x.where(), -1);
    }

    private static void forms() {
        faulty("", 1, 0);
        faulty("   ", 1, 3);
        faulty(";", 1, 0);
        faulty("suit", 1, 4);
        faulty("suit  ", 1, 6);
        faulty("suits within", 1, 0);
        faulty("within 1", 1, 0);
        faulty("suit within within", 1, 12);
        faulty("suit within 1 wedding 9;", 1, 24);
        faulty("suit within 1 wedding 9;;", 1, 24);
        faulty("suit within 1 wedding 9 9", 1, 24);
        faulty("suit within 1 wedding 9\nseam", 1, 23);
        faulty("suit within 1 wedding 9;Measure", 1, 24);
        // More signs than a token has are no token from the first on.
        faulty("suit within 0001", 1, 12);
        faultyAtLast(HEAD + "seam abcdefghi", 1);
        faultyAtLast(HEAD + "seam s plain at chest size 1000", 1);
        faultyAtLast(HEAD + "seam 7", 1);
        faultyAtLast(HEAD + "seam s plain in", 1);
        faultyAtLast(HEAD + "seam s plain at 5", 1);
        faultyAtLast(HEAD + "seam s worn at seam", 1);
        for (String name : new String[] {"suit", "measure", "seam", "pull", "stripe", "feast", "read"}) {
            faultyAtLast(HEAD + "seam " + name, 1);
        }
        // Blanks part tokens and mean nothing else; where other signs part them, none are needed.
        taken("suit within1wedding9;measure m body40holds0grows0;seam s plain at m size40left0", 1);
        taken(" suit  within 001 wedding 09 ; measure abcdefgh body 400 holds 20 grows 9 ;"
            + " seam body worn at abcdefgh size 500 left 20  ", 1);
        taken("suit within 0 wedding 1;measure m body 40 holds 0 grows 0;seam s plain at m size 40 left 0", 1);
        taken("suit within 9 wedding 99;measure at body 40 holds 0 grows 0;seam plain plain at at size 20 left 0", 1);
    }

    private static void namesAndBounds() {
        String two = BARE + seam("s", 100, 0) + ";" + seam("t", 100, 0) + ";";
        faultyAtLast(BARE + "seam s plain at s", 2);
        faultyAtLast(two + "seam u plain at s", 2);
        faultyAtLast(two + "pull m", 2);
        faultyAtLast(two + "pull u", 2);
        faultyAtLast(two + "pull s u", 2);
        faultyAtLast(two + "stripe m", 2);
        faultyAtLast(two + "stripe s m", 2);
        faultyAtLast(two + "read s", 2);
        faultyAtLast(two + "read x", 2);
        faultyAtLast(BARE + "measure m", 3);
        faultyAtLast(two + "measure s", 3);
        faultyAtLast(two + "seam s", 3);
        faultyAtLast(two + "suit", 3);
        faultyAtLast(two + "pull s s", 3);
        faultyAtLast(two + "pull s t 1;pull s t", 3);
        faultyAtLast(two + "stripe s s", 3);
        faultyAtLast(two + "stripe s t 1;stripe s t", 3);
        faultyAtLast(two + "stripe s t 1;stripe t s", 3);
        taken(two + "pull s t 1;pull t s 4;stripe t s 0", 2);
        taken(two + "stripe s t 7;feast 0 chance 0;feast 99 chance 100;read m 0 60;read m 99 500;read m 0 60", 2);
        faultyAtLast("suit within 10", 4);
        faultyAtLast("suit within 0 wedding 0", 4);
        faultyAtLast("suit within 0 wedding 100", 4);
        faultyAtLast(BARE + "measure k body 39", 4);
        faultyAtLast(BARE + "measure k body 401", 4);
        faultyAtLast(BARE + "measure k body 40 holds 21", 4);
        faultyAtLast(BARE + "measure k body 40 holds 0 grows 10", 4);
        faultyAtLast(BARE + "seam s plain at m size 19", 4);
        faultyAtLast(BARE + "seam s plain at m size 501", 4);
        faultyAtLast(BARE + "seam s plain at m size 20 left 21", 4);
        faultyAtLast(two + "pull s t 0", 4);
        faultyAtLast(two + "pull s t 5", 4);
        faultyAtLast(two + "stripe s t 8", 4);
        faultyAtLast(two + "feast 100", 4);
        faultyAtLast(two + "feast 0 chance 101", 4);
        faultyAtLast(two + "feast 5 chance 1;feast 5", 4);
        faultyAtLast(two + "feast 5 chance 1;feast 4", 4);
        faultyAtLast(two + "read m 100", 4);
        faultyAtLast(two + "read m 9 59", 4);
        faultyAtLast(two + "read m 9 501", 4);
        // The first from the left, whatever comes behind it.
        faulty("suit within 10 wedding A", 4, 12);
    }

    private static void manyAndLacks() {
        String head = "suit within 0 wedding 50";
        StringBuilder measures = new StringBuilder(head);
        for (char name = 'a'; name < 'g'; name++) {
            measures.append(';').append(measure(String.valueOf(name)));
        }
        faulty(measures.toString(), 6, measures.length());
        faultyAtLast(measures + ";measure", 5);
        faulty(measures + ";measure 5", 5, measures.length() + 1);
        StringBuilder seams = new StringBuilder(BARE);
        StringBuilder pulls = new StringBuilder();
        for (char name = 'a'; name < 'g'; name++) {
            seams.append(seam(String.valueOf(name), 100, 0)).append(';');
        }
        faultyAtLast(seams + "seam", 5);
        String sixSeams = seams.substring(0, seams.length() - 1);
        taken(sixSeams, 6);
        int count = 0;
        for (char one = 'a'; one < 'g' && count < 12; one++) {
            for (char other = 'a'; other < 'g' && count < 12; other++) {
                if (one != other) {
                    pulls.append(";pull ").append(one).append(' ').append(other).append(" 1");
                    count++;
                }
            }
        }
        taken(sixSeams + pulls, 6);
        faultyAtLast(sixSeams + pulls + ";pull", 5);
        String stripes = ";stripe a b 0;stripe a c 0;stripe a d 0;stripe f a 0";
        taken(sixSeams + stripes, 6);
        faultyAtLast(sixSeams + stripes + ";stripe", 5);
        String feasts = ";feast 0 chance 1;feast 1 chance 1;feast 2 chance 1;feast 3 chance 1;feast 4 chance 1"
            + ";feast 99 chance 1";
        taken(sixSeams + feasts, 6);
        faultyAtLast(sixSeams + feasts + ";feast", 5);
        String reads = ";read m 0 60".repeat(8);
        taken(sixSeams + reads, 6);
        faultyAtLast(sixSeams + reads + ";read", 5);
        faulty(head, 6, head.length());
        faulty(BARE.substring(0, BARE.length() - 1) + "  ", 6, BARE.length() + 1);
        for (String name : new String[] {"measure", "seam", "pull", "stripe", "feast", "read"}) {
            faulty("  " + name + " m", 6, 2);
        }
    }

    private static void whereAndFault() {
        SecondFitting x = coat();
        Check.suitOf(x, "suit within 10");
        CHECK.due("where", x.where(), 12);
        CHECK.due("where again", x.where(), 12);
        x.size(99);
        x.fault();
        CHECK.due("where behind calls that can't be refused", x.where(), 12);
        x.body(0, 0);
        CHECK.due("where behind one that can", x.where(), -1);
        CHECK.due("fault stays", x.fault(), 4);
        Check.suitOf(x, "suit within 10");
        x.suit(1);
        CHECK.due("where behind a refusal by 2", x.where(), -1);
        CHECK.due("fault stays behind a refusal by 2", x.fault(), 4);
        Check.suitOf(x, COAT);
        CHECK.due("fault of one without", x.fault(), 0);
    }

    private static void seamAndPull() {
        SecondFitting x = coat();
        int[][] seams = {{0, 0, 98, 5}, {1, 0, 104, 4}, {2, 1, 61, 2}, {3, 1, 60, 3}};
        for (int s = 0; s < 4; s++) {
            for (int what = 0; what < 4; what++) {
                CHECK.fine(x, "seam " + s + " " + what, x.seam(s, what), seams[s][what]);
            }
        }
        CHECK.refused(x, "seam -1", x.seam(-1, 0), -1, 1);
        CHECK.refused(x, "seam 4", x.seam(4, 0), -1, 1);
        CHECK.refused(x, "seam what -1", x.seam(0, -1), -1, 1);
        CHECK.refused(x, "seam what 4", x.seam(0, 4), -1, 1);
        CHECK.fine(x, "pull 0 1", x.pull(0, 1), 1);
        CHECK.fine(x, "pull 1 2", x.pull(1, 2), 2);
        CHECK.fine(x, "pull 2 1", x.pull(2, 1), 0);
        CHECK.refused(x, "pull 3 3", x.pull(3, 3), -1, 1);
        CHECK.refused(x, "pull 3 4", x.pull(3, 4), -1, 1);
        CHECK.refused(x, "pull -1 0", x.pull(-1, 0), -1, 1);
        // What a worn one gives is part of its size.
        x.wear(9);
        CHECK.due("worn for 9 days", x.seam(3, 2), 60);
        x.wear(1);
        CHECK.due("worn for 10 days", x.seam(3, 2), 61);
        x.wear(19);
        CHECK.due("worn for 29 days", x.seam(3, 2), 62);
        CHECK.due("others don't give", x.seam(2, 2), 61);
        CHECK.due("nor more is left", x.seam(3, 3), 3);
    }

    private static void bodies() {
        SecondFitting x = coat();
        int[][] days = {{0, 100}, {9, 100}, {10, 102}, {19, 102}, {20, 104}, {99, 104}};
        for (int[] day : days) {
            CHECK.fine(x, "body on " + day[0], x.body(0, day[0]), day[1]);
            CHECK.fine(x, "measured on " + day[0], x.measured(0, day[0]), day[1] - 4);
            CHECK.fine(x, "arm on " + day[0], x.body(1, day[0]), 60);
        }
        for (String name : new String[] {"body", "measured", "taped"}) {
            CHECK.refused(x, name, Calls.of(x, name, new int[] {2, 0, 0}), -1, 1);
            CHECK.refused(x, name, Calls.of(x, name, new int[] {-1, 100, 0}), -1, 1);
            CHECK.refused(x, name, Calls.of(x, name, new int[] {0, 100, 0}), -1, 2);
            CHECK.refused(x, name, Calls.of(x, name, new int[] {0, -1, 0}), -1, 2);
        }
        // 75 * 0 + 74 is 74 and 75 * 1 + 74 is 149: by 3 both leave 2.
        CHECK.fine(x, "taped by 0", x.taped(0, 0, 0), 97);
        CHECK.fine(x, "taped by 1", x.taped(0, 10, 1), 99);
        // -75 + 74 is -1, and that is 65,536, which by 3 leaves 1.
        CHECK.fine(x, "taped by 65536", x.taped(1, 0, 65536), 60);
        // 75 * 874 + 74 is 65,624, less 65,537 is 87, which by 3 leaves 0.
        CHECK.fine(x, "taped by 874", x.taped(1, 0, 874), 59);
        CHECK.refused(x, "taped by 65537", x.taped(0, 0, 65537), -1, 2);
        CHECK.refused(x, "taped by -1", x.taped(0, 0, -1), -1, 2);
    }

    private static void amiss() {
        SecondFitting x = coat();
        int[][] standing = {{-2, 4, 1, 0}, {-2, 4, 1, -2}, {-2, 4, -2, 0}};
        int[] sums = {7, 9, 8};
        int[] wrong = {3, 11, 7};
        for (int pose = 0; pose < 3; pose++) {
            for (int s = 0; s < 4; s++) {
                CHECK.fine(x, "amiss " + s + " in " + pose, x.amiss(s, 0, pose), standing[pose][s]);
            }
            CHECK.fine(x, "together in " + pose, x.together(0, pose), sums[pose]);
            CHECK.fine(x, "wrong in " + pose, x.wrong(0, pose), wrong[pose]);
        }
        CHECK.fine(x, "amiss on 20", x.amiss(0, 20, 0), -6);
        CHECK.fine(x, "together on 20", x.together(20, 0), 7);
        CHECK.fine(x, "wrong on 20", x.wrong(20, 0), 1);
        CHECK.refused(x, "amiss", x.amiss(4, 100, 0), -1000, 1);
        CHECK.refused(x, "amiss", x.amiss(-1, 0, 0), -1000, 1);
        CHECK.refused(x, "amiss", x.amiss(0, 100, 3), -1000, 1);
        CHECK.refused(x, "amiss", x.amiss(0, 0, -1), -1000, 1);
        CHECK.refused(x, "amiss", x.amiss(0, 100, 0), -1000, 2);
        CHECK.refused(x, "amiss", x.amiss(0, -1, 0), -1000, 2);
        for (String name : new String[] {"together", "wrong"}) {
            CHECK.refused(x, name, Calls.of(x, name, new int[] {0, 3, 0}), -1, 1);
            CHECK.refused(x, name, Calls.of(x, name, new int[] {100, -1, 0}), -1, 1);
            CHECK.refused(x, name, Calls.of(x, name, new int[] {100, 0, 0}), -1, 2);
            CHECK.refused(x, name, Calls.of(x, name, new int[] {-1, 0, 0}), -1, 2);
        }
    }

    private static void fitsAndUntil() {
        SecondFitting x = Check.fitting("suit within 2 wedding 30;measure m body 100 holds 0 grows 3;"
            + "seam p pulling at m size 102 left 0;seam w worn at m size 101 left 0;feast 40 chance 0;feast 60 chance 9");
        CHECK.fine(x, "fits in all", x.fits(39), 7);
        // -1 and -2; with arms up -4.
        CHECK.fine(x, "fits on 40", x.fits(40), 1);
        CHECK.fine(x, "fits on 60", x.fits(60), 0);
        CHECK.refused(x, "fits on 100", x.fits(100), -1, 2);
        CHECK.refused(x, "fits on -1", x.fits(-1), -1, 2);
        CHECK.fine(x, "until", x.until(), 60);
        x.days(60);
        CHECK.fine(x, "until on the day", x.until(), 60);
        x.days(1);
        CHECK.fine(x, "until from behind it", x.until(), 61);
        x = bare(seam("s", 100, 0));
        CHECK.fine(x, "until for ever", x.until(), -2);
        x = bare(seam("s", 100, 0) + ";feast 99 chance 1");
        CHECK.fine(x, "until the last day", x.until(), 99);
    }

    private static void worst() {
        SecondFitting x = coat();
        CHECK.fine(x, "worst", x.worst(0), 1);
        CHECK.fine(x, "its pose", x.worstPose(0), 0);
        x = bare("seam a plain at m size 98 left 0;seam p pulling at m size 101 left 0;seam w worn at m size 100 left 0");
        CHECK.fine(x, "worst, the first of like ones", x.worst(0), 0);
        CHECK.fine(x, "its pose", x.worstPose(0), 0);
        x = bare("seam a plain at m size 102 left 0;seam p pulling at m size 100 left 0;seam w worn at m size 99 left 0");
        CHECK.fine(x, "worst with arms up", x.worst(0), 1);
        CHECK.fine(x, "arms up", x.worstPose(0), 2);
        x = bare("seam p pulling at m size 101 left 0;seam w worn at m size 99 left 0");
        CHECK.fine(x, "worst sitting", x.worst(0), 1);
        CHECK.fine(x, "sitting", x.worstPose(0), 1);
        // 1 too much is as much as 1 too little: the first pose.
        x = bare("seam w worn at m size 101 left 0");
        CHECK.fine(x, "too much or too little", x.worstPose(0), 0);
        for (String name : new String[] {"worst", "worstPose"}) {
            CHECK.refused(x, name, Calls.of(x, name, new int[] {100, 0, 0}), -1, 2);
            CHECK.refused(x, name, Calls.of(x, name, new int[] {-1, 0, 0}), -1, 2);
        }
    }

    private static void stripes() {
        SecondFitting x = coat();
        int[][] stripes = {{0, 1, 2, 2}, {2, 3, 1, 1}};
        for (int k = 0; k < 2; k++) {
            for (int what = 0; what < 4; what++) {
                CHECK.fine(x, "stripe " + k + " " + what, x.stripe(k, what), stripes[k][what]);
            }
        }
        CHECK.refused(x, "stripe 2", x.stripe(2, 0), -1, 1);
        CHECK.refused(x, "stripe -1", x.stripe(-1, 0), -1, 1);
        CHECK.refused(x, "stripe what 4", x.stripe(0, 4), -1, 1);
        CHECK.refused(x, "stripe what -1", x.stripe(0, -1), -1, 1);
        CHECK.fine(x, "both meet", x.meets(), 3);
        x.wear(10);
        CHECK.fine(x, "what is worn gives", x.stripe(1, 3), 0);
        CHECK.fine(x, "one meets", x.meets(), 1);
        x.pin(0, 1);
        CHECK.fine(x, "a pin and its pull", x.stripe(0, 3), 4);
        CHECK.fine(x, "none meets", x.meets(), 0);
    }

    private static void tryPin() {
        SecondFitting x = coat();
        CHECK.fine(x, "tryPin out", x.tryPin(0, 3), 3);
        CHECK.fine(x, "tryPin all that is left", x.tryPin(0, 5), 3 + 1 + 1);
        CHECK.fine(x, "tryPin in", x.tryPin(0, -9), 11 + 13 + 1);
        CHECK.fine(x, "tryPin of a striped one", x.tryPin(1, -2), 2 + 2 + 5);
        CHECK.due("nothing is pinned", x.seam(0, 2), 98);
        CHECK.due("nothing can be undone", x.size(10), 0);
        CHECK.refused(x, "tryPin", x.tryPin(4, 10), -1, 1);
        CHECK.refused(x, "tryPin", x.tryPin(0, 10), -1, 2);
        CHECK.refused(x, "tryPin", x.tryPin(1, -11), -1, 2);
        CHECK.refused(x, "tryPin", x.tryPin(0, 0), -1, 2);
        CHECK.refused(x, "tryPin", x.tryPin(0, 6), -1, 5);
        CHECK.refused(x, "tryPin", x.tryPin(1, 3), -1, 5);
        CHECK.refused(x, "tryPin", x.tryPin(1, -3), -1, 5);
        x.days(20);
        CHECK.fine(x, "tryPin on the day now", x.tryPin(0, 3), 3 + 3 + 1);
    }

    private static void row(SecondFitting x, String what, int... row) {
        for (int s = 0; s < row.length; s++) {
            CHECK.fine(x, "pin at " + s + " of " + what, x.pinOf(0, s), row[s]);
        }
    }

    private static void fewest() {
        SecondFitting x = bare(seam("a", 100, 0));
        CHECK.fine(x, "none", x.fewest(0), 0);
        row(x, "none", 0);
        x = coat();
        CHECK.fine(x, "one", x.fewest(0), 1);
        row(x, "one", 3, 0, 0, 0);
        CHECK.fine(x, "three aren't enough", x.fewest(20), -2);
        CHECK.refused(x, "pinOf without", x.pinOf(20, 0), -1000, 6);
        CHECK.refused(x, "fewest on 100", x.fewest(100), -1, 2);
        CHECK.refused(x, "fewest on -1", x.fewest(-1), -1, 2);
        CHECK.refused(x, "pinOf", x.pinOf(100, 4), -1000, 1);
        CHECK.refused(x, "pinOf", x.pinOf(0, -1), -1000, 1);
        CHECK.refused(x, "pinOf", x.pinOf(100, 0), -1000, 2);
        x = bare(seam("a", 109, 0) + ";" + seam("b", 98, 2) + ";" + seam("c", 91, 9));
        CHECK.fine(x, "three", x.fewest(0), 3);
        row(x, "three", -9, 2, 9);
        x = bare(seam("a", 109, 0) + ";" + seam("b", 98, 2) + ";" + seam("c", 91, 9) + ";" + seam("d", 99, 1));
        CHECK.fine(x, "four", x.fewest(0), -2);
        x = bare(seam("a", 110, 0));
        CHECK.fine(x, "farther than 9", x.fewest(0), -2);
        x = bare(seam("a", 98, 1));
        CHECK.fine(x, "too little left", x.fewest(0), -2);
        // Two seams that pull alike at a third one: the least row first is that with none at the first of them.
        x = bare(seam("a", 99, 9) + ";" + seam("b", 100, 9) + ";pull b a 1");
        CHECK.fine(x, "one", x.fewest(0), 1);
        row(x, "one", 1, 0);
        x = Check.fitting("suit within 1 wedding 9;measure m body 100 holds 0 grows 0;" + seam("a", 102, 9) + ";"
            + seam("b", 100, 9) + ";pull b a 1");
        // a by -1 or b by 1 would do, and a by -3 is the least.
        row(x, "the least", -3, 0);
        x = Check.fitting("suit within 1 wedding 9;measure m body 100 holds 0 grows 0;" + seam("a", 98, 9) + ";"
            + seam("b", 100, 9) + ";pull b a 1");
        // b by -1 comes ahead of a by 1, as 0 at the first seam is less.
        row(x, "in ahead of out", 0, -1);
        x = Check.fitting("suit within 1 wedding 9;measure m body 100 holds 0 grows 0;"
            + "seam a striped at m size 104 left 0");
        row(x, "even ones alone", -4);
        // It need not fit sitting or with arms up, nor need stripes meet.
        x = bare("seam p pulling at m size 100 left 0;seam w worn at m size 100 left 0;stripe p w 5");
        CHECK.fine(x, "standing alone", x.fewest(0), 0);
        x = bare(seam("a", 100, 0) + ";" + seam("b", 109, 0) + ";" + seam("c", 91, 9) + ";" + seam("d", 100, 0)
            + ";seam e striped at m size 96 left 4");
        CHECK.fine(x, "three of five", x.fewest(0), 3);
        row(x, "three of five", 0, -9, 9, 0, 4);
        // Of two pins: a by -2 and b by 2 do, but a by -3 and b by 3, too, and so on: the least at a first.
        x = Check.fitting("suit within 1 wedding 9;measure m body 100 holds 0 grows 0;" + seam("a", 102, 9) + ";"
            + seam("b", 98, 9));
        CHECK.fine(x, "two", x.fewest(0), 2);
        row(x, "two", -3, 1);
        x = bare(seam("a", 102, 0));
        x.fewest(0);
        Check.suitOf(x, BARE + seam("a", 100, 0));
        CHECK.fine(x, "of the suit now", x.fewest(0), 0);
        x = bare(seam("a", 102, 0));
        x.mark();
        x.pin(0, -2);
        x.fewest(0);
        x.back(0);
        CHECK.fine(x, "as by the mark", x.fewest(0), 1);
        x.fewest(0);
        x.pin(0, -2);
        CHECK.fine(x, "as it is now", x.fewest(0), 0);
        x.undo();
        CHECK.fine(x, "as it is now", x.fewest(0), 1);
    }

    private static void best() {
        SecondFitting x = coat();
        CHECK.fine(x, "best", x.best(0), 0);
        CHECK.fine(x, "bestBy, the least of like ones", x.bestBy(0), 2);
        CHECK.fine(x, "bestLeaves", x.bestLeaves(0), 3);
        x = bare(seam("a", 101, 0) + ";" + seam("b", 100, 9) + ";pull b a 1");
        CHECK.due("the first seam", x.best(0), 0);
        CHECK.due("by", x.bestBy(0), -1);
        x = bare(seam("a", 100, 9) + ";" + seam("b", 101, 9) + ";pull a b 1");
        CHECK.due("the better one", x.best(0), 1);
        x = bare(seam("a", 99, 9) + ";" + seam("b", 101, 9) + ";" + seam("c", 99, 9));
        CHECK.due("like seams", x.best(0), 0);
        CHECK.due("by", x.bestBy(0), 1);
        CHECK.due("leaves", x.bestLeaves(0), 2);
        x = bare("seam w worn at m size 101 left 0");
        CHECK.due("standing alone", x.bestBy(0), -1);
        CHECK.due("standing alone", x.bestLeaves(0), 0);
        CHECK.due("out by 9", bare(seam("a", 90, 12)).bestBy(0), 9);
        CHECK.due("in by 9", bare(seam("a", 110, 0)).bestBy(0), -9);
        x = bare(seam("a", 98, 2));
        x.best(0);
        x.pin(0, 2);
        CHECK.due("none any more", x.best(0), -2);
        CHECK.due("none any more by", x.bestBy(0), 0);
        x = bare(seam("a", 99, 0));
        CHECK.fine(x, "none", x.best(0), -2);
        CHECK.fine(x, "none by", x.bestBy(0), 0);
        CHECK.fine(x, "none leaves", x.bestLeaves(0), 1);
        CHECK.refused(x, "best", x.best(100), -1, 2);
        CHECK.refused(x, "bestBy", x.bestBy(100), -1000, 2);
        CHECK.refused(x, "bestLeaves", x.bestLeaves(-1), -1, 2);
    }

    private static void bestAll() {
        // Standing it fits; with arms up -3: out by 1 or 2 leaves 2 at most, and 1 is the least.
        SecondFitting x = bare("seam p pulling at m size 100 left 9");
        CHECK.due("standing none", x.best(0), -2);
        CHECK.fine(x, "all", x.bestAll(0), 0);
        CHECK.fine(x, "all by", x.bestAllBy(0), 1);
        CHECK.fine(x, "all leaves", x.bestAllLeaves(0), 2);
        x = bare("seam p pulling at m size 102 left 9");
        CHECK.fine(x, "none", x.bestAll(0), -2);
        CHECK.fine(x, "none by", x.bestAllBy(0), 0);
        CHECK.fine(x, "none leaves", x.bestAllLeaves(0), 2);
        x = bare("seam p pulling at m size 100 left 9;seam w worn at m size 100 left 9");
        // Out at either seam, one pose would have 3 or more all the same.
        CHECK.due("none is better", x.bestAllLeaves(0), 3);
        CHECK.due("none is better", x.bestAll(0), -2);
        x = bare("seam p pulling at m size 100 left 9;seam w worn at m size 101 left 9");
        // 1, 1 and 4 in the three poses; p out by 1 leaves 2, 2 and 3, by 2 leaves 3, 3 and 2.
        CHECK.due("leaves", x.bestAllLeaves(0), 3);
        CHECK.due("at the first", x.bestAll(0), 0);
        CHECK.due("by the least", x.bestAllBy(0), 1);
        x = bare("seam p pulling at m size 101 left 9;seam w worn at m size 104 left 9");
        // 5, 3 and 6: w in by 3 leaves 2, 2 and 3, in by 4 leaves 1, 3 and 2; the least is -4.
        CHECK.due("at w", x.bestAll(0), 1);
        CHECK.due("by the least", x.bestAllBy(0), -4);
        CHECK.due("leaves", x.bestAllLeaves(0), 3);
        CHECK.refused(x, "bestAll", x.bestAll(100), -1, 2);
        CHECK.refused(x, "bestAllBy", x.bestAllBy(-1), -1000, 2);
        CHECK.refused(x, "bestAllLeaves", x.bestAllLeaves(100), -1, 2);
    }

    private static void reach() {
        SecondFitting x = coat();
        int[] reached = {7, 6, 4, 8};
        for (int s = 0; s < 4; s++) {
            CHECK.fine(x, "reach " + s, x.reach(s), reached[s]);
        }
        CHECK.refused(x, "reach 4", x.reach(4), -1, 1);
        CHECK.refused(x, "reach -1", x.reach(-1), -1, 1);
        x = bare(seam("a", 100, 0) + ";" + seam("b", 100, 0) + ";" + seam("c", 100, 0) + ";" + seam("d", 100, 0)
            + ";pull d c 1;pull c b 1;pull b a 1;pull a b 1");
        CHECK.due("against the order", x.reach(3), 15);
        CHECK.due("round", x.reach(0), 3);
    }

    private static void settles() {
        SecondFitting x = coat();
        CHECK.fine(x, "settles", x.settles(0), 1);
        CHECK.fine(x, "settles on 20", x.settles(20), -2);
        CHECK.refused(x, "settles on 100", x.settles(100), -1, 2);
        CHECK.due("nothing is pinned", x.seam(0, 2) + x.size(10), 98);
        CHECK.fine(bare(seam("a", 100, 0)), "at once", bare(seam("a", 100, 0)).settles(0), 0);
        CHECK.due("by 9 at most", bare(seam("a", 128, 0)).settles(0), 4);
        CHECK.due("within 20 rounds", bare(seam("a", 280, 0)).settles(0), 20);
        CHECK.due("beyond 20 rounds", bare(seam("a", 281, 0)).settles(0), -2);
        CHECK.due("no farther than is left", bare(seam("a", 90, 10)).settles(0), 2);
        CHECK.due("no farther than is left", bare(seam("a", 89, 10)).settles(0), -2);
        CHECK.due("odd ones of a striped seam", bare("seam a striped at m size 103 left 0").settles(0), -2);
        x = Check.fitting("suit within 1 wedding 9;measure m body 100 holds 0 grows 0;"
            + "seam a striped at m size 103 left 0;seam b striped at m size 97 left 3");
        CHECK.due("one less in, one less out", x.settles(0), 1);
        x = Check.fitting("suit within 1 wedding 9;measure m body 100 holds 0 grows 0;"
            + "seam b striped at m size 97 left 1");
        CHECK.due("one less out than is left", x.settles(0), -2);
        // What comes in is left then: a is let out by what b pulls it in.
        x = bare(seam("a", 104, 0) + ";" + seam("b", 97, 3) + ";pull b a 1");
        CHECK.due("what is left grows", x.settles(0), 2);
        CHECK.due("for a day", bare(seam("a", 101, 0) + ";feast 7 chance 0").settles(7), 0);
        CHECK.due("for a day", bare(seam("a", 101, 0) + ";feast 7 chance 0").settles(6), 1);
    }

    private static void orders() {
        SecondFitting x = coat();
        CHECK.fine(x, "orders", x.orders(0), 1);
        for (int i = 0; i < 4; i++) {
            CHECK.fine(x, "orderAt " + i, x.orderAt(0, i), i);
        }
        CHECK.refused(x, "orderAt 4", x.orderAt(100, 4), -1, 1);
        CHECK.refused(x, "orderAt -1", x.orderAt(0, -1), -1, 1);
        CHECK.refused(x, "orderAt on 100", x.orderAt(100, 0), -1, 2);
        CHECK.refused(x, "orders on 100", x.orders(100), -1, 2);
        CHECK.fine(x, "orders on 20", x.orders(20), -2);
        CHECK.refused(x, "orderAt on 20", x.orderAt(20, 0), -1, 6);
        x = bare(seam("a", 104, 0) + ";" + seam("b", 97, 3) + ";pull b a 1");
        CHECK.due("sooner than by seams", x.orders(0), 1);
        CHECK.due("b first", x.orderAt(0, 0), 1);
        CHECK.due("then a", x.orderAt(0, 1), 0);
        // c pulls at b and b at a: only c, b, a settles in one round, and d may stand anywhere.
        x = bare(seam("a", 101, 0) + ";" + seam("b", 101, 0) + ";" + seam("c", 101, 0) + ";" + seam("d", 101, 0)
            + ";pull b a 1;pull c b 1");
        CHECK.due("one round", x.orders(0), 1);
        int[] order = {2, 1, 0, 3};
        for (int i = 0; i < 4; i++) {
            CHECK.due("the first order, at " + i, x.orderAt(0, i), order[i]);
        }
        // All six the other way round is the last of all orders.
        x = bare(seam("a", 101, 0) + ";" + seam("b", 100, 0) + ";" + seam("c", 100, 0) + ";" + seam("d", 100, 0) + ";"
            + seam("e", 100, 0) + ";" + seam("f", 101, 0) + ";pull f e 1;pull e d 1;pull d c 1;pull c b 1;pull b a 1");
        CHECK.due("one round of six", x.orders(0), 1);
        CHECK.due("the last first", x.orderAt(0, 0), 5);
        CHECK.due("the first last", x.orderAt(0, 5), 0);
        CHECK.due("the order is new for each day", x.orderAt(0, 1), 4);
        x.orders(0);
        Check.suitOf(x, BARE + seam("a", 101, 0) + ";feast 9 chance 0");
        CHECK.due("of the suit now", x.orderAt(0, 0), 0);
        CHECK.due("on another day", x.orders(9), 0);
        CHECK.due("on the day again", x.orders(8), 1);
        x = bare(seam("a", 100, 0) + ";" + seam("b", 100, 0));
        CHECK.due("at once", x.orders(0), 0);
        CHECK.due("at once by seams", x.orderAt(0, 0), 0);
        x.pin(1, -3);
        CHECK.due("not as it was", x.orders(0), -2 + 3);
    }

    private static void odds(SecondFitting x, int s, int day, long upper, long lower) {
        CHECK.fine(x, "enough, the upper one", x.enough(s, day, false), upper);
        CHECK.fine(x, "enough, the lower one", x.enough(s, day, true), lower);
    }

    private static void enough() {
        SecondFitting x = coat();
        odds(x, 0, 30, 9, 10);
        odds(x, 0, 19, 1, 1);
        odds(x, 1, 99, 1, 1);
        x = bare(seam("a", 100, 1) + ";feast 1 chance 33;feast 2 chance 50;feast 3 chance 0;feast 4 chance 100");
        odds(x, 0, 0, 1, 1);
        odds(x, 0, 1, 1, 1);
        // Both are kept in 33 * 50 of 100 * 100 ways.
        odds(x, 0, 2, 167, 200);
        odds(x, 0, 3, 167, 200);
        odds(x, 0, 4, 67, 200);
        x.pin(0, 1);
        odds(x, 0, 4, 67, 200);
        x = bare(seam("a", 99, 0) + ";feast 1 chance 33");
        odds(x, 0, 0, 0, 1);
        x = bare(seam("a", 100, 0) + ";feast 1 chance 1;feast 2 chance 1;feast 3 chance 1;feast 4 chance 1"
            + ";feast 5 chance 1;feast 6 chance 1");
        odds(x, 0, 6, 941480149401L, 1000000000000L);
        x = bare("seam a worn at m size 100 left 0;feast 1 chance 50");
        odds(x, 0, 1, 1, 2);
        x.wear(10);
        odds(x, 0, 1, 1, 1);
        CHECK.refused(x, "enough", x.enough(1, 100, true), -1, 1);
        CHECK.refused(x, "enough", x.enough(0, 100, true), -1, 2);
        CHECK.refused(x, "enough", x.enough(0, -1, false), -1, 2);
    }

    private static void needAndLeave() {
        SecondFitting x = coat();
        CHECK.fine(x, "need", x.need(0, 20), 6);
        CHECK.fine(x, "need", x.need(0, 10), 4);
        CHECK.fine(x, "need at least 0", x.need(1, 0), 0);
        CHECK.refused(x, "need", x.need(4, 100), -1, 1);
        CHECK.refused(x, "need", x.need(0, 100), -1, 2);
        int[][] leaves = {{0, 0}, {1, 2}, {40, 2}, {41, 4}, {90, 4}, {91, 6}, {100, 6}};
        for (int[] leave : leaves) {
            CHECK.fine(x, "leave " + leave[0], x.leave(0, leave[0]), leave[1]);
        }
        CHECK.fine(x, "leave at least 0", x.leave(1, 100), 0);
        CHECK.refused(x, "leave", x.leave(4, 101), -1, 1);
        CHECK.refused(x, "leave", x.leave(0, 101), -1, 2);
        CHECK.refused(x, "leave", x.leave(0, -1), -1, 2);
        // Feasts behind the wedding don't count, nor one that can't be kept; one that is sure does.
        x = bare(seam("a", 100, 0) + ";feast 49 chance 0;feast 50 chance 100;feast 51 chance 100");
        CHECK.due("leave by sure ones", x.leave(0, 1), 1);
        CHECK.due("leave by sure ones", x.leave(0, 100), 1);
    }

    private static void visits() {
        SecondFitting x = coat();
        int[] days = {0, 10, 20};
        CHECK.fine(x, "visits", x.visits(), 3);
        for (int i = 0; i < 3; i++) {
            CHECK.fine(x, "visitAt " + i, x.visitAt(i), days[i]);
        }
        CHECK.refused(x, "visitAt 3", x.visitAt(3), -1, 1);
        CHECK.refused(x, "visitAt -1", x.visitAt(-1), -1, 1);
        x.days(10);
        CHECK.due("visits from a feast on", x.visits(), 2);
        CHECK.due("the first", x.visitAt(0), 10);
        x.days(20);
        CHECK.due("visits on the wedding", x.visits(), 1);
        CHECK.due("the wedding", x.visitAt(0), 30);
        x.days(1);
        CHECK.fine(x, "the wedding is past", x.visits(), -2);
        CHECK.refused(x, "none then", x.visitAt(0), -1, 1);
        // By more than within since the visit ahead: every second feast; a measure without a seam doesn't count.
        x = Check.fitting("suit within 1 wedding 40;measure m body 100 holds 0 grows 1;measure k body 90 holds 0 grows 9;"
            + seam("a", 100, 0) + ";feast 0 chance 1;feast 10 chance 1;feast 20 chance 0;feast 30 chance 1"
            + ";feast 40 chance 1;feast 41 chance 1");
        CHECK.due("every second feast", x.visits(), 3);
        CHECK.due("the second", x.visitAt(1), 20);
        CHECK.due("on the wedding too", x.visitAt(2), 40);
        x = bare(seam("a", 100, 0) + ";feast 0 chance 1;feast 1 chance 1;feast 2 chance 1");
        CHECK.due("day by day", x.visits(), 3);
        CHECK.due("the day behind", x.visitAt(1), 1);
    }

    private static void when() {
        SecondFitting x = coat();
        CHECK.fine(x, "when", x.when(), 20);
        CHECK.fine(x, "whenAmiss", x.whenAmiss(), 8);
        x.days(60);
        CHECK.due("when is no matter of now", x.when(), 20);
        x = bare(seam("a", 300, 0) + ";feast 50 chance 1;feast 51 chance 1");
        CHECK.due("the wedding itself", x.when(), 50);
        CHECK.due("nothing", x.whenAmiss(), 0);
        x = bare(seam("a", 300, 0) + ";feast 51 chance 1");
        CHECK.due("the first day", x.when(), 0);
    }

    private static void truly() {
        SecondFitting x = coat();
        CHECK.fine(x, "the least", x.truly(0, false), 99);
        CHECK.fine(x, "the greatest", x.truly(0, true), 101);
        CHECK.fine(x, "never read", x.truly(1, true), -2);
        CHECK.fine(x, "never read", x.truly(1, false), -2);
        CHECK.refused(x, "truly 2", x.truly(2, true), -1, 1);
        CHECK.refused(x, "truly -1", x.truly(-1, false), -1, 1);
        x = Check.fitting(HEAD + "seam s plain at arm size 60 left 0;read chest 0 90;read chest 0 94");
        CHECK.fine(x, "one alone", x.truly(0, false), 94);
        CHECK.fine(x, "one alone", x.truly(0, true), 94);
        x = Check.fitting(HEAD + "seam s plain at arm size 60 left 0;read chest 0 95;read chest 0 90");
        CHECK.fine(x, "none such", x.truly(0, false), -2);
        CHECK.fine(x, "none such", x.truly(0, true), -2);
        x = Check.fitting(HEAD + "seam s plain at arm size 60 left 0;read chest 99 60;feast 99 chance 0");
        CHECK.fine(x, "grown on the day too", x.truly(0, false), 58);
        CHECK.fine(x, "and what it holds", x.truly(0, true), 62);
    }

    private static void widestAndJudge() {
        String three = "suit within 1 wedding 30;measure a body 100 holds 4 grows 2;measure b body 100 holds 6 grows 0;"
            + "measure c body 100 holds 6 grows 0;seam s plain at a size 100 left 0";
        SecondFitting x = Check.fitting(three);
        CHECK.fine(x, "none read", x.widest(), 0);
        CHECK.fine(x, "nothing to judge", x.judge(), -2);
        x = Check.fitting(three + ";read a 0 96;read b 0 100");
        CHECK.fine(x, "one not read", x.widest(), 2);
        CHECK.fine(x, "both can be", x.judge(), -2);
        x = Check.fitting(three + ";read a 0 96;read b 0 94;read c 0 95");
        CHECK.fine(x, "the first of like ones", x.widest(), 1);
        x = Check.fitting(three + ";read a 0 96;read b 0 94;read b 0 97;read c 0 95;read c 0 93");
        CHECK.fine(x, "the widest", x.widest(), 0);
        CHECK.fine(x, "below what is measured", x.judge(), 4);
        x = Check.fitting(three + ";read a 0 90;read a 0 101;read b 0 90;read b 0 97;read c 0 90;read c 0 96");
        CHECK.fine(x, "one that can be at all", x.widest(), 2);
        x = Check.fitting(three + ";read a 0 90;read a 0 101;read b 0 90;read b 0 97;read c 0 90;read c 0 98");
        CHECK.fine(x, "none that can be", x.widest(), 0);
        x = Check.fitting(three + ";feast 5 chance 0;read a 5 98;read a 5 102;read a 4 101");
        CHECK.fine(x, "above the body", x.judge(), 2);
        x = Check.fitting(three + ";feast 5 chance 0;read a 5 97;read a 5 103");
        CHECK.fine(x, "below what is measured", x.judge(), 0);
    }

    private static void part() {
        SecondFitting x = coat();
        CHECK.fine(x, "he", x.part(0, 0, false), 0);
        CHECK.fine(x, "the suit", x.part(0, 0, true), -2);
        CHECK.fine(x, "he on 20", x.part(0, 20, false), -4);
        CHECK.fine(x, "the suit on 20", x.part(0, 20, true), -2);
        CHECK.fine(x, "the suit", x.part(1, 10, true), 4);
        x.wear(10);
        CHECK.fine(x, "what it gives", x.part(3, 0, true), 1);
        CHECK.refused(x, "part", x.part(4, 100, true), -1000, 1);
        CHECK.refused(x, "part", x.part(0, 100, false), -1000, 2);
        CHECK.refused(x, "part", x.part(0, -1, true), -1000, 2);
    }

    private static int metBy(int size, int left, String kind, String more, int lie) {
        SecondFitting x = bare("seam a " + kind + " at m size " + size + " left " + left + ";" + seam("b", 100, 0)
            + more + ";stripe a b " + lie);
        int answer = x.meetBy(0);
        CHECK.due("meetBy is taken", x.trouble(), 0);
        return answer;
    }

    private static void meetBy() {
        CHECK.due("it does", metBy(103, 9, "plain", "", 3), 0);
        CHECK.due("out", metBy(103, 9, "plain", "", 6), 3);
        CHECK.due("in", metBy(103, 9, "plain", "", 1), -2);
        CHECK.due("out ahead of in", metBy(103, 9, "plain", "", 7), 4);
        CHECK.due("too little left", metBy(103, 2, "plain", "", 6), -5);
        CHECK.due("a striped one", metBy(104, 9, "striped", "", 2), -2);
        CHECK.due("none by even ones", metBy(104, 9, "striped", "", 5), 100);
        CHECK.due("a pull", metBy(104, 9, "plain", ";pull a b 1", 0), 2);
        CHECK.due("no pull of the other", metBy(104, 9, "plain", ";pull b a 1", 0), 4);
        CHECK.due("none by a pull", metBy(104, 9, "plain", ";pull a b 1", 1), 100);
        CHECK.due("none by a pull of three", metBy(104, 9, "plain", ";pull a b 3", 2), 100);
        CHECK.due("below 0", metBy(97, 9, "plain", "", 4), -1);
        CHECK.due("in by 7", metBy(100, 0, "plain", "", 1), -7);
        SecondFitting x = coat();
        CHECK.refused(x, "meetBy 2", x.meetBy(2), -1000, 1);
        CHECK.refused(x, "meetBy -1", x.meetBy(-1), -1000, 1);
    }

    private static void tight() {
        SecondFitting x = bare("seam a worn at m size 90 left 0;" + seam("b", 90, 0)
            + ";feast 30 chance 0;feast 90 chance 1");
        CHECK.fine(x, "now", x.tight(0, 0), 100);
        CHECK.fine(x, "9 days", x.tight(0, 9), 100);
        CHECK.fine(x, "10 days", x.tight(0, 10), 99);
        CHECK.fine(x, "30 days", x.tight(0, 30), 98);
        CHECK.fine(x, "90 days", x.tight(0, 90), 93);
        CHECK.fine(x, "what doesn't give", x.tight(1, 90), 102);
        CHECK.refused(x, "91 days", x.tight(0, 91), -1, 2);
        CHECK.refused(x, "-1 days", x.tight(0, -1), -1, 2);
        CHECK.refused(x, "no such seam", x.tight(2, 91), -1, 1);
        x.wear(5);
        CHECK.fine(x, "5 and 5 days", x.tight(0, 5), 99);
        CHECK.fine(x, "5 and 14 days", x.tight(0, 14), 99);
        CHECK.fine(x, "5 and 15 days", x.tight(0, 15), 98);
        x.wear(15);
        CHECK.fine(x, "what it gave is given", x.tight(0, 9), 100);
        CHECK.fine(x, "20 and 10 days", x.tight(0, 10), 101 - 1);
        x.undo();
        x.days(5);
        CHECK.fine(x, "up to day 99", x.tight(0, 89), 102 - 9);
        CHECK.refused(x, "beyond day 99", x.tight(0, 90), -1, 2);
    }

    private static void months() {
        SecondFitting x = bare(seam("a", 101, 0) + ";feast 10 chance 75;feast 50 chance 25;feast 51 chance 100");
        // By 0: 74 and 75 * 74 + 74 = 5,624, by 100 74 and 24: both are kept. The next two: 75 * 5,624 + 74 = 421,874,
        // less 6 * 65,537 = 28,652, and 75 * 28,652 + 74 = 2,148,974, less 32 * 65,537 = 51,790: 52 and 90.
        CHECK.fine(x, "month by 0", x.month(0), 1);
        CHECK.fine(x, "month by 5624", x.month(5624), 0);
        CHECK.fine(x, "one of them", x.months(0, 1), 0);
        CHECK.fine(x, "two of them", x.months(0, 2), 1);
        CHECK.fine(x, "again", x.month(0), 1);
        CHECK.refused(x, "month by -1", x.month(-1), -1, 2);
        CHECK.refused(x, "month by 65537", x.month(65537), -1, 2);
        CHECK.refused(x, "months by -1", x.months(-1, 1), -1, 2);
        CHECK.refused(x, "months by 65537", x.months(65537, 1), -1, 2);
        CHECK.refused(x, "0 months", x.months(0, 0), -1, 2);
        CHECK.refused(x, "61 months", x.months(0, 61), -1, 2);
        x = bare(seam("a", 100, 0) + ";feast 10 chance 74");
        CHECK.fine(x, "not below its chance", x.month(0), 0);
        // 65,536 draws itself: 36 for ever.
        x = bare(seam("a", 101, 0) + ";feast 10 chance 37");
        CHECK.fine(x, "month by 65536", x.month(65536), 0);
        CHECK.fine(x, "60 of them", x.months(65536, 60), 60);
        x = Check.fitting("suit within 1 wedding 9;measure m body 100 holds 0 grows 0;" + seam("a", 101, 0));
        CHECK.fine(x, "within", x.months(3, 7), 7);
        SecondFitting y = bare("seam w worn at m size 100 left 0;seam p pulling at m size 100 left 0");
        CHECK.fine(y, "standing", y.month(3), 0);
        CHECK.fine(y, "standing", y.months(3, 60), 60);
        CHECK.fine(x, "what is amiss", x.month(3), 1);
    }

    private static void pin() {
        SecondFitting x = coat();
        CHECK.fine(x, "out", x.pin(0, 5), 103);
        CHECK.due("nothing is left", x.seam(0, 3), 0);
        CHECK.due("the front is pulled", x.seam(1, 2), 99);
        CHECK.due("nothing is taken there", x.seam(1, 3), 4);
        CHECK.due("the sleeve isn't", x.seam(2, 2), 61);
        CHECK.refused(x, "out again", x.pin(0, 1), -1, 5);
        CHECK.fine(x, "in", x.pin(0, -9), 94);
        CHECK.due("left", x.seam(0, 3), 9);
        CHECK.due("the front", x.seam(1, 2), 108);
        CHECK.refused(x, "an odd one", x.pin(1, 1), -1, 5);
        CHECK.refused(x, "an odd one in", x.pin(1, -1), -1, 5);
        CHECK.fine(x, "an even one", x.pin(1, 4), 112);
        CHECK.due("the sleeve by 2", x.seam(2, 2), 53);
        CHECK.refused(x, "pin", x.pin(4, 0), -1, 1);
        CHECK.refused(x, "pin", x.pin(-1, 1), -1, 1);
        CHECK.refused(x, "pin by 0", x.pin(0, 0), -1, 2);
        CHECK.refused(x, "pin by 10", x.pin(0, 10), -1, 2);
        CHECK.refused(x, "pin by -10", x.pin(0, -10), -1, 2);
        CHECK.due("refused ones are no acts", x.size(10), 3);
        CHECK.fine(x, "out by 9", x.pin(0, 9), 103);
        x.wear(10);
        CHECK.fine(x, "a worn one", x.pin(3, 1), 62);
    }

    private static void daysAndWear() {
        SecondFitting x = coat();
        CHECK.fine(x, "days", x.days(60), 60);
        CHECK.fine(x, "wear", x.wear(38), 38);
        CHECK.due("the day", x.size(8), 98);
        CHECK.refused(x, "days beyond", x.days(2), -1, 3);
        CHECK.refused(x, "wear beyond", x.wear(2), -1, 3);
        CHECK.fine(x, "wear up to it", x.wear(1), 39);
        CHECK.due("the last day", x.size(8), 99);
        for (String name : new String[] {"days", "wear"}) {
            CHECK.refused(x, name, Calls.of(x, name, new int[] {0, 0, 0}), -1, 2);
            CHECK.refused(x, name, Calls.of(x, name, new int[] {61, 0, 0}), -1, 2);
            CHECK.refused(x, name, Calls.of(x, name, new int[] {1, 0, 0}), -1, 3);
        }
    }

    private static void beforeAndBetter() {
        SecondFitting x = coat();
        CHECK.fine(x, "before nothing", x.before(), -2);
        CHECK.fine(x, "better than nothing", x.better(), -2);
        x.pin(0, 3);
        CHECK.fine(x, "before", x.before(), 7);
        CHECK.fine(x, "better", x.better(), 1);
        x.days(10);
        CHECK.fine(x, "before, on the day it was", x.before(), 3);
        CHECK.fine(x, "3 is as much as 3", x.together(10, 0), 3);
        CHECK.fine(x, "as good isn't better", x.better(), 0);
        x.pin(0, -9);
        CHECK.fine(x, "worse", x.better(), 0);
        x.undo();
        x.undo();
        CHECK.fine(x, "before the first", x.before(), 7);
        SecondFitting y = bare("seam w worn at m size 103 left 0");
        y.pin(0, -2);
        CHECK.fine(y, "better standing", y.better(), 1);
        y.pin(0, 1);
        CHECK.fine(y, "not better standing", y.better(), 0);
        x.undo();
        CHECK.fine(x, "nothing again", x.before(), -2);
    }

    private static void undo() {
        SecondFitting x = coat();
        x.pin(0, 3);
        x.wear(25);
        CHECK.fine(x, "undo wear", x.undo() ? 1 : 0, 1);
        CHECK.due("day", x.size(8), 0);
        CHECK.due("wear", x.size(9), 0);
        CHECK.due("pinned", x.seam(0, 2), 101);
        CHECK.fine(x, "undo the pin", x.undo() ? 1 : 0, 1);
        CHECK.due("size", x.seam(0, 2), 98);
        CHECK.due("left", x.seam(0, 3), 5);
        CHECK.due("pulled", x.seam(1, 2), 104);
        CHECK.refused(x, "undo nothing", x.undo() ? 1 : 0, 0, 6);
        for (int i = 0; i < 20; i++) {
            x.days(1);
        }
        CHECK.due("16 are kept", x.size(10), 16);
        for (int i = 0; i < 16; i++) {
            CHECK.due("undo " + i, x.undo(), true);
        }
        CHECK.due("no more", x.undo(), false);
        CHECK.due("day 4", x.size(8), 4);
        x.days(3);
        x.days(2);
        CHECK.due("undo behind it all", x.undo(), true);
        CHECK.due("day 7", x.size(8), 7);
    }

    private static void marks() {
        SecondFitting x = coat();
        CHECK.fine(x, "mark", x.mark(), 0);
        x.pin(0, 3);
        x.wear(20);
        CHECK.fine(x, "mark", x.mark(), 1);
        CHECK.due("acts stay", x.size(10), 2);
        x.days(5);
        CHECK.fine(x, "mark", x.mark(), 2);
        CHECK.refused(x, "mark", x.mark(), -1, 3);
        CHECK.refused(x, "back 3", x.back(3) ? 1 : 0, 0, 1);
        CHECK.refused(x, "back -1", x.back(-1) ? 1 : 0, 0, 1);
        x.undo();
        CHECK.due("marks stay", x.size(11), 3);
        CHECK.fine(x, "back 0", x.back(0) ? 1 : 0, 1);
        CHECK.due("size", x.seam(0, 2), 98);
        CHECK.due("left", x.seam(0, 3), 5);
        CHECK.due("day", x.size(8), 0);
        CHECK.due("wear", x.size(9), 0);
        CHECK.refused(x, "nothing can be undone", x.undo() ? 1 : 0, 0, 6);
        CHECK.fine(x, "nor was there a before", x.before(), -2);
        CHECK.due("all marks stay", x.size(11), 3);
        CHECK.fine(x, "back 1", x.back(1) ? 1 : 0, 1);
        CHECK.due("size", x.seam(0, 2), 101);
        CHECK.due("worn", x.seam(3, 2), 62);
        CHECK.fine(x, "back 2", x.back(2) ? 1 : 0, 1);
        CHECK.due("day", x.size(8), 25);
        x.pin(0, -1);
        CHECK.due("acts behind it can be undone", x.undo(), true);
        CHECK.due("a mark is as it was", x.back(2), true);
        CHECK.due("size", x.seam(0, 2), 101);
    }

    private static int ledOr(SecondFitting x, int i) {
        try {
            return x.led(i);
        } catch (NoSuchElementException e) {
            return -7;
        }
    }

    private static void led() {
        CHECK.due("led without a suit", ledOr(new SecondFitting(), 0), -7);
        SecondFitting x = bare(seam("a", 100, 0) + ";" + seam("b", 101, 0) + ";" + seam("c", 100, 0) + ";"
            + seam("d", 99, 0) + ";feast 5 chance 0");
        x.seam(9, 9);
        CHECK.due("the first", ledOr(x, 0), 1);
        CHECK.due("the second", ledOr(x, 1), 3);
        CHECK.due("no third", ledOr(x, 2), -7);
        CHECK.due("none ahead of the first", ledOr(x, -1), -7);
        CHECK.due("it has no number", x.trouble(), 1);
        x.days(5);
        CHECK.due("on the day now", ledOr(x, 1), 2);
        x = coat();
        CHECK.due("within", ledOr(x, 1), 1);
        CHECK.due("within", ledOr(x, 2), -7);
    }

    private static void size() {
        SecondFitting x = coat();
        x.pin(0, 1);
        x.wear(4);
        x.days(3);
        x.mark();
        x.feed(0, 0, 0, 0, 0);
        int[] sizes = {1, 30, 2, 4, 2, 2, 2, 2, 7, 4, 3, 1, 20};
        for (int what = 0; what < sizes.length; what++) {
            CHECK.due("size " + what, x.size(what), sizes[what]);
        }
        CHECK.due("size 13", x.size(13), -1);
        CHECK.due("size -1", x.size(-1), -1);
        CHECK.due("it has no number", x.trouble(), 0);
    }

    private static void trouble() {
        SecondFitting x = coat();
        CHECK.refused(x, "refused", x.seam(9, 0), -1, 1);
        x.size(99);
        x.fault();
        x.where();
        x.feed(0, 0, 0, 0, 0);
        CHECK.due("calls without numbers leave it", x.trouble(), 1);
        CHECK.due("it leaves itself", x.trouble(), 1);
        for (String name : new String[] {"seam", "pull", "body", "measured", "taped", "amiss", "together", "wrong",
            "fits", "until", "worst", "worstPose", "stripe", "tryPin", "fewest", "pinOf", "best", "bestBy", "bestLeaves",
            "bestAll", "bestAllBy", "bestAllLeaves", "reach", "settles", "orders", "orderAt", "enough", "need", "leave",
            "visits", "visitAt", "when", "whenAmiss", "truly", "widest", "judge", "part", "meets", "meetBy", "tight",
            "month", "months", "pin", "mark", "before", "better", "undo", "back"}) {
            x.seam(9, 0);
            int answer = (int) Calls.of(x, name, new int[] {0, 1, 0});
            CHECK.due("trouble of " + name + " that answered " + answer, x.trouble(), 0);
        }
    }
}
