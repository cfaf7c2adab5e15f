/** Objects to begin with, each made anew. */
final class Makers {
    static final String HEAD = "suit within 1 wedding 30;"
        + "measure chest body 100 holds 4 grows 2;measure arm body 60 holds 0 grows 0;";
    static final String COAT = HEAD
        + "seam back plain at chest size 98 left 5;seam front striped at chest size 104 left 4;"
        + "seam sleeve pulling at arm size 61 left 2;seam knee worn at arm size 60 left 3;"
        + "pull back front 1;pull front sleeve 2;stripe back front 2;stripe sleeve knee 1;"
        + "feast 10 chance 50;feast 20 chance 20;read chest 0 97;read chest 15 101";
    /** One measure m of 100, that grows by 1; nothing may be amiss, and the wedding is on day 50. */
    static final String BARE = "suit within 0 wedding 50;measure m body 100 holds 0 grows 1;";
    private static final String FULL = "suit within 9 wedding 99;measure a body 40 holds 20 grows 9;"
        + "measure b body 400 holds 0 grows 0;measure c body 100 holds 1 grows 1;measure d body 100 holds 2 grows 2;"
        + "measure e body 100 holds 3 grows 3;measure f body 100 holds 4 grows 4;"
        + "seam g plain at a size 20 left 20;seam h striped at b size 500 left 0;seam i pulling at c size 109 left 9;"
        + "seam j worn at d size 91 left 9;seam k plain at e size 100 left 0;seam l striped at f size 100 left 8;"
        + "pull g h 4;pull h g 4;pull g i 1;pull i g 1;pull g j 2;pull j g 2;pull g k 3;pull k g 3;pull g l 1;"
        + "pull l g 1;"
        + "pull i j 1;pull j i 1;stripe g h 7;stripe h i 0;stripe i j 7;stripe l k 0;"
        + "feast 0 chance 0;feast 1 chance 100;feast 50 chance 1;feast 97 chance 99;feast 98 chance 50;"
        + "feast 99 chance 50;"
        + "read a 0 60;read a 99 500;read b 0 400;read c 1 101;read d 1 102;read d 1 103;read e 0 97;read f 50 104";

    private Makers() {
    }

    /** No SUIT, half a text on the tape. */
    static SecondFitting blank() {
        SecondFitting x = new SecondFitting();
        Check.feedText(x, Look.FIRST_HALF);
        return x;
    }

    static SecondFitting coat() {
        return Check.fitting(COAT);
    }

    /** The coat pinned, worn, marked and laid by up to day 13, a FAULT told since, and half a text on the tape. */
    static SecondFitting worked() {
        SecondFitting x = coat();
        x.pin(0, 1);
        x.mark();
        x.wear(11);
        x.mark();
        x.days(2);
        Check.suitOf(x, "suit within 10");
        Check.feedText(x, Look.FIRST_HALF);
        return x;
    }

    /** As much of all as there is room for: a text of lines, acts, marks, and a tape of 1,000 bytes. */
    static SecondFitting full() {
        SecondFitting x = Check.fitting(FULL);
        for (int i = 0; i < 9; i++) {
            x.days(1);
            x.pin(2, i % 2 == 0 ? -1 : 1);
        }
        x.mark();
        x.wear(60);
        x.mark();
        x.days(30);
        x.mark();
        Check.feedText(x, Look.FIRST_HALF + "7".repeat(1000 - Look.FIRST_HALF.length()));
        return x;
    }

    /** Lines behind BARE. */
    static SecondFitting bare(String... lines) {
        return made(BARE + String.join(";", lines));
    }

    /** As bare, but with a within, and the body doesn't grow. */
    static SecondFitting within(int within, String... lines) {
        String head = "suit within " + within + " wedding 50;measure m body 100 holds 0 grows 0";
        return made(head, String.join(";", lines));
    }

    static SecondFitting made(String... lines) {
        String text = String.join(";", lines);
        SecondFitting x = Check.fitting(text);
        if (x.fault() != 0) {
            throw new IllegalStateException("at fault by " + x.fault() + " at " + x.where() + ": " + text);
        }
        return x;
    }

    static String plain(String name, int size, int left) {
        return seam(name, "plain", size, left);
    }

    /** Plain seams a to f with nothing left: the size of the first, and that of the others. */
    static String six(int first, int others) {
        StringBuilder seams = new StringBuilder(plain("a", first, 0));
        for (char name = 'b'; name <= 'f'; name++) {
            seams.append(';').append(plain(String.valueOf(name), others, 0));
        }
        return seams.toString();
    }

    static String seam(String name, String kind, int size, int left) {
        return "seam " + name + " " + kind + " at m size " + size + " left " + left;
    }
}
