import java.util.ArrayList;
import java.util.List;
import java.util.NoSuchElementException;

/** All that can be seen of an object, its acts, marks and tape too; it is used up by it. */
final class Look {
    private static final int[] DAYS = {0, 30, 99};
    /** A text in two halves: what an object's tape may begin with, and what is fed behind it to see whether it does. */
    static final String FIRST_HALF = "suit within 3 wedding 40;measure q body ";
    private static final String SECOND_HALF = "123 holds 4 grows 5 ;seam r worn at q size 77 left 8";

    private final SecondFitting x;
    private final List<String> seen = new ArrayList<>();

    private Look(SecondFitting x) {
        this.x = x;
    }

    static List<String> at(SecondFitting x, boolean tapeToo) {
        Look look = new Look(x);
        look.told(tapeToo);
        look.cloth();
        look.days();
        look.wholes();
        look.undoAll();
        look.goBack();
        if (tapeToo) {
            look.tape();
        }
        return look.seen;
    }

    private void see(String name, int... in) {
        int[] three = {in.length > 0 ? in[0] : 0, in.length > 1 ? in[1] : 0, in.length > 2 ? in[2] : 0};
        String answer;
        try {
            answer = String.valueOf(Calls.of(x, name, three));
        } catch (NoSuchElementException e) {
            answer = "thrown";
        }
        seen.add(name + "(" + three[0] + ", " + three[1] + ", " + three[2] + ") = " + answer);
    }

    private void told(boolean tapeToo) {
        for (int what = 0; what <= 11; what++) {
            see("size", what);
        }
        if (tapeToo) {
            see("size", 12);
            see("fault");
        }
        for (int i = 0; i < 3; i++) {
            see("led", i);
        }
    }

    private void cloth() {
        for (int s = 0; s < 6; s++) {
            for (int what = 0; what < 4; what++) {
                see("seam", s, what);
            }
            see("pull", s, (s + 1) % 6);
            see("reach", s);
            see("need", s, 99);
            see("enough", s, 99, 0);
        }
        for (int k = 0; k < 4; k++) {
            see("stripe", k, 2);
            see("stripe", k, 3);
            see("meetBy", k);
        }
        see("meets");
    }

    private void days() {
        for (int day : DAYS) {
            see("body", 0, day);
            see("measured", 1, day);
            see("together", day, 2);
            see("fits", day);
            see("fewest", day);
            see("pinOf", day, 0);
            see("bestBy", day);
            see("bestAllLeaves", day);
            see("settles", day);
            see("orders", day);
            see("orderAt", day, 0);
        }
    }

    private void wholes() {
        for (String name : "until visits when whenAmiss widest judge before better".split(" ")) {
            see(name);
        }
        see("visitAt", 1);
        see("truly", 0, 1);
        see("leave", 0, 60);
        see("tight", 0, 9);
        see("month", 7);
        see("months", 7, 9);
    }

    private void state() {
        see("size", 8);
        see("size", 9);
        see("size", 10);
        see("size", 11);
        see("seam", 0, 2);
        see("seam", 0, 3);
        see("seam", 1, 2);
        see("seam", 3, 2);
    }

    private void undoAll() {
        for (int i = 0; i <= 16 && x.undo(); i++) {
            see("before");
            state();
        }
    }

    private void goBack() {
        for (int mark = 0; mark < 3; mark++) {
            see("back", mark);
            state();
        }
    }

    private void tape() {
        Check.feedText(x, SECOND_HALF);
        seen.add("suit = " + x.suit(x.size(12)));
        see("fault");
        see("where");
        see("body", 0, 0);
        see("seam", 0, 2);
        see("size", 1);
    }
}
