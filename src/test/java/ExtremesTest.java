import java.util.NoSuchElementException;

/** Numbers far out of bounds in every call, without a suit and with one: refused as the document says, nothing thrown. */
public final class ExtremesTest {
    private static final int[] NUMBERS = {Integer.MIN_VALUE, Integer.MIN_VALUE + 1, -1000, -1, 0, 1, 5, 99, 100, 65536,
        Integer.MAX_VALUE - 1, Integer.MAX_VALUE};
    private static final String[] NAMES = {
        "fault", "where", "size", "trouble", "led", "seam", "pull", "body", "measured", "taped", "amiss", "together",
        "wrong", "fits", "until", "worst", "worstPose", "stripe", "tryPin", "fewest", "pinOf", "best", "bestBy",
        "bestLeaves", "bestAll", "bestAllBy", "bestAllLeaves", "reach", "settles", "orders", "orderAt", "enough",
        "need", "leave", "visits", "visitAt", "when", "whenAmiss", "truly", "widest", "judge", "part", "meets",
        "meetBy", "tight", "month", "months", "pin", "days", "wear", "before", "better", "undo", "mark", "back"};
    private static final String FULL = "suit within 0 wedding 99;measure m body 400 holds 20 grows 9;"
        + "seam a plain at m size 20 left 20;seam b striped at m size 500 left 0;seam c pulling at m size 500 left 20;"
        + "seam d worn at m size 20 left 20;seam e plain at m size 400 left 0;seam f worn at m size 401 left 1;"
        + "pull a b 4;pull b a 4;pull c d 4;pull d c 4;pull e f 4;pull f e 4;pull a c 4;pull a d 4;pull a e 4;pull a f 4;"
        + "pull b f 4;pull f a 4;stripe a b 7;stripe c d 7;stripe e f 0;stripe a f 0;feast 0 chance 100;feast 1 chance 0;"
        + "feast 2 chance 1;feast 3 chance 99;feast 98 chance 50;feast 99 chance 50;read m 0 60;read m 99 500";

    private ExtremesTest() {
    }

    public static void main(String[] args) {
        Check check = new Check();
        for (String text : new String[] {"", FULL}) {
            for (String name : NAMES) {
                for (int a : NUMBERS) {
                    for (int b : NUMBERS) {
                        both(check, text, name, a, b);
                    }
                }
            }
        }
        for (int n : NUMBERS) {
            SecondFitting x = new SecondFitting();
            Check.feedText(x, "suit");
            check.due("suit(" + n + ")", x.suit(n), -1);
            check.due("trouble of suit(" + n + ")", x.trouble(), n >= 0 && n <= 20 ? 4 : 2);
        }
        check.end();
    }

    private static void both(Check check, String text, String name, int a, int b) {
        SecondFitting x = new SecondFitting();
        Oracle oracle = new Oracle();
        for (int from = 0; from < text.length(); from += 20) {
            int[] five = new int[5];
            for (int i = 0; i < 20; i++) {
                five[i / 4] = five[i / 4] << 8 | (from + i < text.length() ? text.charAt(from + i) : ' ');
            }
            x.feed(five[0], five[1], five[2], five[3], five[4]);
            oracle.feed(five);
        }
        String told = name + "(" + a + ", " + b + ")";
        check.due(told + " suit", x.suit(text.length()), oracle.suit(text.length()));
        for (int c : new int[] {b, 0}) {
            check.due(told, answer(x, name, a, b, c), due(oracle, name, a, b, c));
            check.due(told + " trouble", x.trouble(), oracle.call("trouble", 0, 0, 0));
        }
    }

    private static long answer(SecondFitting x, String name, int a, int b, int c) {
        try {
            return Calls.of(x, name, new int[] {a, b, c});
        } catch (NoSuchElementException e) {
            return Long.MIN_VALUE;
        }
    }

    private static long due(Oracle oracle, String name, int a, int b, int c) {
        try {
            return oracle.call(name, a, b, c);
        } catch (NoSuchElementException e) {
            return Long.MIN_VALUE;
        }
    }
}
