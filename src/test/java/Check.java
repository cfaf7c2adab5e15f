import java.nio.charset.StandardCharsets;

/** Counts answers that are not as due, and feeds texts. */
final class Check {
    private int asked;
    private int wrong;

    void due(String what, long got, long want) {
        asked++;
        if (got != want) {
            wrong++;
            System.out.println(what + " answered " + got + ", due is " + want);
        }
    }

    void due(String what, boolean got, boolean want) {
        due(what, got ? 1 : 0, want ? 1 : 0);
    }

    /** An answer that is refused, and by which number. */
    void refused(SecondFitting x, String what, long got, long want, int trouble) {
        due(what, got, want);
        due(what + ", trouble", x.trouble(), trouble);
    }

    /** An answer that is not refused. */
    void fine(SecondFitting x, String what, long got, long want) {
        refused(x, what, got, want, 0);
    }

    void end() {
        System.out.println(wrong == 0 ? asked + " answers are as due" : wrong + " of " + asked + " are not as due");
        if (wrong != 0) {
            System.exit(1);
        }
    }

    static int feedText(SecondFitting x, String text) {
        return feedBytes(x, text.getBytes(StandardCharsets.ISO_8859_1));
    }

    /** Feeds bytes, with blanks up to the next twenty; how many THE TAPE has. */
    static int feedBytes(SecondFitting x, byte[] bytes) {
        int fed = x.size(12);
        int[] five = new int[5];
        for (int from = 0; from < bytes.length; from += 20) {
            for (int i = 0; i < 20; i++) {
                int sign = from + i < bytes.length ? bytes[from + i] & 255 : 32;
                five[i / 4] = five[i / 4] << 8 | sign;
            }
            fed = x.feed(five[0], five[1], five[2], five[3], five[4]);
        }
        return fed;
    }

    static int suitOf(SecondFitting x, String text) {
        feedText(x, text);
        return x.suit(text.length());
    }

    static SecondFitting fitting(String text) {
        SecondFitting x = new SecondFitting();
        suitOf(x, text);
        return x;
    }
}
