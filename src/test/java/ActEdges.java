import java.util.NoSuchElementException;

/** Promises 48 to 58, and Terms III and IV: acts, undoing, marks, what is told, trouble. */
final class ActEdges {
    private static final int THROWN = -7;

    private final Sentences told;

    ActEdges(Sentences told) {
        this.told = told;
    }

    void all() {
        acts();
        before();
        undo();
        marks();
        led();
        size();
        trouble();
    }

    private static String plain(String name, int size, int left) {
        return Makers.plain(name, size, left);
    }

    private void acts() {
        told.of(48, "PIN: SIZE then.");
        SecondFitting x = Makers.bare(Makers.seam("a", "worn", 20, 9));
        told.fine(x, "out", x.pin(0, 9), 29);
        for (int size = 20; size >= -61; size -= 9) {
            told.fine(x, "in", x.pin(0, -9), size);
        }
        x.wear(10);
        told.fine(x, "with what it gives", x.pin(0, 1), -59);
        x = Makers.bare(plain("a", 26, 0));
        x.pin(0, -9);
        x.pin(0, -9);
        // An answer of -1 is no refusal here.
        told.fine(x, "a size of -1", x.pin(0, -9), -1);
        told.fine(x, "a size of -1", x.seam(0, 2), -1);
        told.of(49, "DAYS (1 .. 60): the day then.");
        x = Makers.coat();
        told.fine(x, "1", x.days(1), 1);
        told.fine(x, "60", x.days(60), 61);
        told.fine(x, "38", x.days(38), 99);
        told.of(50, "WEAR (1 .. 60): how many days of WEAR there were.");
        x = Makers.coat();
        told.fine(x, "1", x.wear(1), 1);
        x.days(20);
        told.fine(x, "60", x.wear(60), 61);
        told.fine(x, "18", x.wear(18), 79);
        told.terms("ACTS: PIN, DAYS go by (NOW is a day, 0 at first; 99 at most), WEAR (days that go by, and it is"
            + " worn).");
        told.due("the last day", x.size(8), 99);
        told.due("no day more", x.days(1), -1);
        told.due("no day more, trouble", x.trouble(), 3);
        told.due("no wear more", x.wear(1), -1);
        told.due("no wear more, trouble", x.trouble(), 3);
        told.due("the last day still", x.size(8), 99);
        told.due("acts", x.size(10), 4);
        x = Makers.coat();
        told.due("at first", x.size(8), 0);
        x.days(5);
        told.due("days alone are no wear", x.size(9), 0);
        x.pin(0, 1);
        told.due("a pin takes no day", x.size(8), 5);
        told.due("acts", x.size(10), 2);
    }

    private void before() {
        told.terms("BEFORE: what was AMISS together, standing, ahead of the latest ACT, on the day it was then.");
        SecondFitting x = Makers.bare(Makers.seam("a", "worn", 103, 0), "feast 10 chance 0;feast 20 chance 0");
        x.days(9);
        told.due("on day 0", x.before(), 3);
        x.wear(10);
        told.due("on day 9", x.before(), 3);
        x.days(1);
        told.due("on day 19, worn", x.before(), 103 + 1 - 101);
        x.pin(0, -2);
        told.due("on day 20", x.before(), 104 - 102);
        x.undo();
        told.due("undone", x.before(), 3);
        told.of(51, "BEFORE; -2 nothing can be undone.");
        told.fine(x, "three acts", x.before(), 3);
        for (int i = 0; i < 3; i++) {
            x.undo();
        }
        told.fine(x, "nothing", x.before(), -2);
        x.mark();
        x.pin(0, -1);
        told.fine(x, "one", x.before(), 3);
        x.back(0);
        told.fine(x, "gone back", x.before(), -2);
        x.pin(0, 9);
        told.fine(x, "a refused one", x.before(), -2);
        told.of(52, "1 if less is AMISS together NOW, standing, than BEFORE; 0 if not; -2 likewise.");
        x = Makers.bare(plain("a", 102, 0), "feast 10 chance 0");
        told.fine(x, "nothing", x.better(), -2);
        x.pin(0, -1);
        told.fine(x, "less by 1", x.better(), 1);
        x.pin(0, -2);
        told.fine(x, "as much the other way", x.better(), 0);
        x.pin(0, -1);
        told.fine(x, "more by 1", x.better(), 0);
        x.undo();
        x.undo();
        x.days(10);
        told.fine(x, "by a feast", x.better(), 1);
        x.days(1);
        told.fine(x, "as much", x.better(), 0);
    }

    private void undo() {
        told.terms("UNDO: the latest (16 are kept).");
        for (int acts : new int[] {1, 15, 16, 17, 33, 40}) {
            SecondFitting x = Makers.bare(plain("a", 100, 9));
            for (int i = 0; i < acts; i++) {
                x.days(1);
            }
            int kept = Math.min(16, acts);
            told.due("kept of " + acts, x.size(10), kept);
            for (int i = 1; i <= kept; i++) {
                told.due("undo " + i + " of " + acts, x.undo(), true);
                told.due("the day then", x.size(8), acts - i);
                told.due("kept then", x.size(10), kept - i);
            }
            told.due("no more of " + acts, x.undo(), false);
            told.due("no more of " + acts + ", trouble", x.trouble(), 6);
            told.due("the day stays", x.size(8), acts - kept);
        }
        told.of(53, "UNDO: true;");
        SecondFitting x = Makers.bare(Makers.seam("a", "worn", 100, 9), plain("b", 100, 3), "pull a b 2");
        x.pin(0, 4);
        x.wear(10);
        x.seam(9, 9);
        told.fine(x, "wear", x.undo() ? 1 : 0, 1);
        told.due("the day", x.size(8), 0);
        told.due("wear", x.size(9), 0);
        told.due("what it gave", x.seam(0, 2), 104);
        told.fine(x, "pin", x.undo() ? 1 : 0, 1);
        told.due("its size", x.seam(0, 2), 100);
        told.due("what is left", x.seam(0, 3), 9);
        told.due("what it pulled", x.seam(1, 2), 100);
    }

    private void marks() {
        told.terms("MARKS: up to 3; gone back to one, nothing can be undone.");
        SecondFitting x = Makers.bare(plain("a", 100, 9));
        for (int i = 0; i < 3; i++) {
            told.fine(x, "mark", x.mark(), i);
            x.pin(0, 1);
        }
        told.due("a fourth", x.mark(), -1);
        told.due("a fourth, trouble", x.trouble(), 3);
        told.due("marks", x.size(11), 3);
        told.due("back", x.back(1), true);
        told.due("nothing to undo", x.size(10), 0);
        told.due("nothing can be undone", x.undo(), false);
        told.due("no room still", x.mark(), -1);
        x.pin(0, 1);
        told.due("what comes behind can be", x.undo(), true);
        told.due("no farther", x.undo(), false);
        told.of(54, "A MARK: its number.");
        x = Makers.bare(plain("a", 100, 9));
        told.fine(x, "the first", x.mark(), 0);
        told.fine(x, "the second, of the same", x.mark(), 1);
        told.due("it is no act", x.size(10), 0);
        x.back(0);
        told.fine(x, "the third", x.mark(), 2);
        told.of(55, "All is as by a MARK (all MARKS stay): true;");
        x = Makers.bare(Makers.seam("a", "worn", 100, 9), plain("b", 100, 3), "pull a b 2");
        x.mark();
        x.pin(0, 4);
        x.wear(20);
        x.mark();
        x.pin(0, -9);
        x.days(9);
        int[][] due = {{106, 5, 92, 20, 20}, {100, 9, 100, 0, 0}, {106, 5, 92, 20, 20}};
        for (int i = 0; i < 3; i++) {
            told.fine(x, "back", x.back((i + 1) % 2) ? 1 : 0, 1);
            told.due("its size", x.seam(0, 2), due[i][0]);
            told.due("what is left", x.seam(0, 3), due[i][1]);
            told.due("what is pulled", x.seam(1, 2), due[i][2]);
            told.due("the day", x.size(8), due[i][3]);
            told.due("wear", x.size(9), due[i][4]);
            told.due("marks stay", x.size(11), 2);
        }
        told.due("none such", x.back(2), false);
        told.due("none such, trouble", x.trouble(), 1);
    }

    private static int ledOr(SecondFitting x, int i) {
        try {
            return x.led(i);
        } catch (NoSuchElementException e) {
            return THROWN;
        }
    }

    private void led() {
        told.of(56, "The i-th seam, by numbers, that is AMISS NOW by more than within, standing.");
        SecondFitting x = Makers.within(1, Makers.six(102, 98));
        for (int i = 0; i < 6; i++) {
            told.due("all six, " + i, ledOr(x, i), i);
        }
        x = Makers.within(1, plain("a", 101, 0), plain("b", 102, 0), plain("c", 99, 0), plain("d", 98, 0)
           , Makers.seam("e", "worn", 100, 0));
        told.due("more than within", ledOr(x, 0), 1);
        told.due("less", ledOr(x, 1), 3);
        x = Makers.bare(plain("a", 100, 0), plain("b", 101, 0), "feast 9 chance 0");
        told.due("on day 0", ledOr(x, 0), 1);
        x.days(9);
        told.due("NOW", ledOr(x, 0), 0);
        told.of(56, "NoSuchElementException if there is none such.");
        SecondFitting y = Makers.within(1, plain("a", 101, 0), plain("b", 102, 0));
        for (int i : new int[] {-1, 1, 2, 6, Integer.MIN_VALUE, Integer.MAX_VALUE}) {
            told.due("led(" + i + ")", ledOr(y, i), THROWN);
        }
        told.due("where nothing is amiss", ledOr(Makers.bare(plain("a", 100, 0)), 0), THROWN);
        told.due("without a suit", ledOr(new SecondFitting(), 0), THROWN);
        told.due("without a suit, -1", ledOr(new SecondFitting(), -1), THROWN);
        y.seam(9, 9);
        ledOr(y, 7);
        told.due("it has no number", y.trouble(), 1);
    }

    private void size() {
        told.of(57, "0 within, 1 the wedding, 2 measures, 3 seams, 4 pulls, 5 stripes, 6 feasts, 7 READ, 8 the day"
            + " NOW, 9 days of WEAR,"
            + " 10 ACTS that can be undone, 11 MARKS, 12 bytes of THE TAPE.");
        int[] full = {9, 99, 6, 6, 12, 4, 6, 8, 99, 60, 16, 3, 1000};
        int[] worked = {1, 30, 2, 4, 2, 2, 2, 2, 13, 11, 3, 2, 40};
        for (int what = 0; what <= 12; what++) {
            told.due("of all there is room for, " + what, Makers.full().size(what), full[what]);
            told.due("of the coat, " + what, Makers.worked().size(what), worked[what]);
        }
        told.of(57, "NONE for others; 0 for what there isn't.");
        for (int what : new int[] {-1, 13, Integer.MIN_VALUE, Integer.MAX_VALUE}) {
            told.due("with a suit, " + what, Makers.worked().size(what), -1);
            told.due("without a suit, " + what, new SecondFitting().size(what), -1);
        }
        SecondFitting x = Makers.bare(plain("a", 100, 0));
        int[] bare = {0, 50, 1, 1, 0, 0, 0, 0, 0, 0, 0, 0, 0};
        for (int what = 0; what <= 12; what++) {
            told.due("without a suit, " + what, new SecondFitting().size(what), 0);
            told.due("of a bare one, " + what, x.size(what), bare[what]);
        }
        x.seam(9, 9);
        x.size(13);
        told.due("it has no number", x.trouble(), 1);
    }

    private void trouble() {
        told.terms("TROUBLE of the latest call that may be refused (those of which a number is told here): 0 it wasn't;"
            + " 1 there is none such; 2 a number; 3 no room; 4 a FAULT; 5 not so; 6 there is none.");
        SecondFitting x = Makers.bare(plain("a", 100, 0));
        x.meets();
        told.due("it wasn't", x.trouble(), 0);
        x.seam(1, 0);
        told.due("there is none such", x.trouble(), 1);
        x.fits(100);
        told.due("a number", x.trouble(), 2);
        x.days(60);
        x.days(60);
        told.due("no room", x.trouble(), 3);
        Check.suitOf(x, "suit");
        told.due("a FAULT", x.trouble(), 4);
        x.pin(0, 1);
        told.due("not so", x.trouble(), 5);
        x.undo();
        x.undo();
        told.due("there is none", x.trouble(), 6);
        told.of(58, "TROUBLE.");
        told.due("of a new one", new SecondFitting().trouble(), 0);
        // Calls without a number leave it, whatever they answer.
        for (int i = 0; i < 50; i++) {
            x.feed(0, 0, 0, 0, 0);
        }
        told.due("no bytes more", x.feed(0, 0, 0, 0, 0), -1);
        x.fault();
        x.where();
        x.size(13);
        ledOr(x, 9);
        told.due("as it was", x.trouble(), 6);
        told.due("again", x.trouble(), 6);
        // What answers -2, 0 or 100 isn't refused.
        x = Makers.bare(plain("a", 99, 0), Makers.seam("b", "striped", 100, 0), "stripe b a 2");
        String[] names = {"fewest", "best", "settles", "orders", "before", "better", "judge", "truly", "meetBy",
            "pull", "meets"};
        int[] due = {-2, -2, -2, -2, -2, -2, -2, -2, 100, 0, 0};
        for (int i = 0; i < names.length; i++) {
            x.seam(9, 9);
            told.fine(x, names[i], Calls.of(x, names[i], new int[] {0, 1, 0}), due[i]);
        }
    }
}
