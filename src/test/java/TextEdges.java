import java.nio.charset.StandardCharsets;

/** Terms I: the bounds of what a text may tell, and each FAULT with its place. */
final class TextEdges {
    private static final String SUIT = "suit within 1 wedding 9";
    private static final String ONE = Makers.BARE + "seam s plain at m size 100 left 0";
    private static final String TWO = ONE + ";seam t plain at m size 100 left 0";
    private static final String[] RESERVED = {"suit", "measure", "seam", "pull", "stripe", "feast", "read"};

    private final Sentences told;

    TextEdges(Sentences told) {
        this.told = told;
    }

    void all() {
        tape();
        blanks();
        words();
        wholes();
        partings();
        suitLine();
        measureLine();
        seamLine();
        pullAndStripeLines();
        feastLine();
        readLine();
        names();
        firstFromTheLeft();
        form();
        untold();
        again();
        bounds();
        many();
        lacks();
    }

    private void taken(String text, int seams) {
        SecondFitting x = Makers.worked();
        x.suit(x.size(12));
        told.fine(x, text, Check.suitOf(x, text), seams);
        told.due(text + ", fault", x.fault(), 0);
        told.due(text + ", where", x.where(), -1);
        told.due(text + ", bytes of the tape", x.size(12), 0);
    }

    private void faulty(String text, int fault, int place) {
        told.faulty(Makers::worked, text, fault, place);
    }

    /** At fault where its last TOKEN begins. */
    private void faultyAtLast(String text, int fault) {
        faulty(text, fault, Math.max(text.lastIndexOf(' '), text.lastIndexOf(';')) + 1);
    }

    private void faultyAtEnd(String text, int fault) {
        faulty(text, fault, text.length());
    }

    /** A WHOLE that stands between two texts: at its bounds, one below them and one above. */
    private void whole(String ahead, int least, int greatest, String behind, int seams) {
        taken(ahead + least + behind, seams);
        taken(ahead + greatest + behind, seams);
        faulty(ahead + (greatest + 1) + behind, 4, ahead.length());
        if (least > 0) {
            faulty(ahead + (least - 1) + behind, 4, ahead.length());
        } else {
            // There are no WHOLES below 0: a sign ahead of it begins no TOKEN.
            faulty(ahead + "-1" + behind, 1, ahead.length());
        }
        faulty(ahead + "999" + behind, 4, ahead.length());
    }

    private void tape() {
        told.terms("THE TEXT of a SUIT (THE TAPE has 1,000 bytes;");
        String rest = ";read m 0 60";
        taken(ONE + " ".repeat(1000 - ONE.length() - rest.length()) + rest, 1);
        taken(" ".repeat(1000 - ONE.length()) + ONE, 1);
        faultyAtEnd(ONE + " ".repeat(999 - ONE.length()) + ";", 1);
        faulty(ONE + " ".repeat(999 - ONE.length()) + "s", 1, 999);
        faultyAtEnd(" ".repeat(1000), 1);
        SecondFitting x = new SecondFitting();
        Check.feedText(x, " ".repeat(1000 - ONE.length()) + ONE);
        told.due("bytes", x.size(12), 1000);
        told.due("one more than there are", x.suit(1001), -1);
        told.due("all", x.suit(1000), 1);
    }

    private void blanks() {
        told.terms("blanks, 32, part TOKENS and mean nothing else;");
        taken("   " + ONE.replace(" ", "   ").replace(";", " ; ") + "   ", 1);
        taken("suit within0wedding50;measure m body100holds0grows1;seam s plain at m size100left0", 1);
        faulty("su it within 0", 1, 0);
        faulty("suit with in 0", 1, 5);
        faulty("suit within 0 wedding 5 0", 1, 24);
        for (int sign : new int[] {0, 9, 10, 13, 31, 33, 127, 128, 160, 255}) {
            faulty("suit" + (char) sign + "within 0", 1, 4);
        }
    }

    private void words() {
        told.terms("TOKENS: WORDS of 1 to 8 small letters that stand together,");
        taken(ONE.replace(" s ", " a ").replace(" m ", " abcdefgh "), 1);
        taken(ONE.replace(" s ", " zyxwvuts "), 1);
        faulty(ONE.replace(" s ", " abcdefghi "), 1, ONE.indexOf(" s ") + 1);
        faulty("suitsuits within", 1, 0);
        faulty("suits within", 1, 0);
        faulty("sui within", 1, 0);
        for (int sign : new int[] {'A', 'S', 'Z', '@', '[', '`', '{', '_', '-', '.', ',', 223, 228}) {
            faulty(ONE.replace(" s ", " " + (char) sign + " "), 1, ONE.indexOf(" s ") + 1);
            // Ahead of it stands a NAME, and no SUIT goes on with what is no TOKEN.
            faulty(ONE.replace(" s ", " s" + (char) sign + " "), 1, ONE.indexOf(" s ") + 2);
        }
    }

    private void wholes() {
        told.terms("WHOLES of 1 to 3 digits that do,");
        taken(ONE.replace("within 0", "within 9"), 1);
        taken(ONE.replace("within 0", "within 00"), 1);
        taken(ONE.replace("within 0", "within 009"), 1);
        taken(ONE.replace("size 100", "size 099"), 1);
        faulty("suit within 0000 wedding 1", 1, 12);
        faulty("suit within 0009 wedding 1", 1, 12);
        faulty(ONE.replace("size 100", "size 0100"), 1, ONE.indexOf("size 100") + 5);
        faulty("suit within 12345678901234567890 wedding 1", 1, 12);
        for (int sign : new int[] {'/', ':', '+', '-', 178, 185}) {
            faulty("suit within " + (char) sign + " wedding", 1, 12);
            faulty("suit within 1" + (char) sign + " wedding", 1, 13);
        }
    }

    private void partings() {
        told.terms("single ones of ;): LINE {; LINE}. LINE, one of:");
        faulty(";", 1, 0);
        faulty(";" + ONE, 1, 0);
        faultyAtEnd(ONE + ";", 1);
        faultyAtEnd(ONE + ";  ", 1);
        faulty(ONE + ";;", 1, ONE.length() + 1);
        faulty(ONE.replace(";measure", " measure"), 1, ONE.indexOf("measure"));
        faulty(ONE.replace(";measure", ";;measure"), 1, ONE.indexOf("measure"));
        faulty(ONE.replace(" at m ", " ; at m "), 1, ONE.indexOf(" at m ") + 1);
        faulty(ONE + ":", 1, ONE.length());
        faulty(ONE + " 0", 1, ONE.length() + 1);
        taken(ONE.replace(";", " ;"), 1);
    }

    private void suitLine() {
        told.terms("suit within WHOLE wedding WHOLE (0 .. 9 eighths; a day, 1 .. 99), ahead of all others");
        whole("suit within ", 0, 9, ONE.substring("suit within 0".length()), 1);
        whole("suit within 0 wedding ", 1, 99, ONE.substring("suit within 0 wedding 50".length()), 1);
        SecondFitting x = Check.fitting(ONE.replace("within 0 wedding 50", "within 9 wedding 1"));
        told.due("within", x.size(0), 9);
        told.due("wedding", x.size(1), 1);
    }

    private void measureLine() {
        told.terms("measure NAME body WHOLE holds WHOLE grows WHOLE (40 .. 400 eighths; 0 .. 20; 0 .. 9; up to 6)");
        String behind = ";seam s plain at k size 100 left 0";
        whole(SUIT + ";measure k body ", 40, 400, " holds 0 grows 0" + behind, 1);
        whole(SUIT + ";measure k body 40 holds ", 0, 20, " grows 0" + behind, 1);
        whole(SUIT + ";measure k body 40 holds 0 grows ", 0, 9, behind, 1);
        String six = SUIT;
        for (String name : "a b c d e k".split(" ")) {
            six += ";measure " + name + " body 40 holds 0 grows 0";
        }
        taken(six + behind, 1);
        told.due("measures", Check.fitting(six + behind).size(2), 6);
        faulty(six + behind + ";measure f body 40 holds 0 grows 0", 5, (six + behind).length() + 1);
        SecondFitting x = Check.fitting(SUIT + ";measure k body 400 holds 20 grows 9" + behind + ";feast 0 chance 0");
        told.due("body", x.body(0, 0), 409);
        told.due("measured", x.measured(0, 0), 389);
    }

    private void seamLine() {
        told.terms("seam NAME KIND at MEASURE size WHOLE left WHOLE"
            + " (KIND: plain, striped, pulling, or worn; 20 .. 500; 0 .. 20; up to 6)");
        String[] kinds = {"plain", "striped", "pulling", "worn"};
        for (int kind = 0; kind < kinds.length; kind++) {
            SecondFitting x = Check.fitting(ONE.replace("plain", kinds[kind]));
            told.fine(x, kinds[kind], x.seam(0, 0), kind);
        }
        for (String kind : "plains plai stripe stripes pull pulled wornx seam s".split(" ")) {
            faulty(ONE.replace("plain", kind), 1, ONE.indexOf("plain"));
        }
        whole(Makers.BARE + "seam s plain at m size ", 20, 500, " left 0", 1);
        whole(Makers.BARE + "seam s plain at m size 20 left ", 0, 20, "", 1);
        String six = Makers.BARE + "seam a plain at m size 20 left 20";
        for (String name : "b c d e f".split(" ")) {
            six += ";seam " + name + " worn at m size 500 left 0";
        }
        taken(six, 6);
        faulty(six + ";seam g plain at m size 20 left 20", 5, six.length() + 1);
        SecondFitting x = Check.fitting(six);
        told.due("least size", x.seam(0, 2), 20);
        told.due("most left", x.seam(0, 3), 20);
        told.due("greatest size", x.seam(5, 2), 500);
        told.due("least left", x.seam(5, 3), 0);
    }

    private void pullAndStripeLines() {
        told.terms("pull SEAM SEAM WHOLE (unlike; once for each two in that order; 1 .. 4; up to 12),");
        whole(TWO + ";pull s t ", 1, 4, "", 2);
        faultyAtLast(TWO + ";pull t t", 3);
        faultyAtLast(TWO + ";pull s t 1;pull s t", 3);
        faultyAtLast(TWO + ";pull s t 1;pull t s 1;pull t s", 3);
        taken(TWO + ";pull s t 1;pull t s 4", 2);
        String six = sixSeams();
        String twelve = six;
        for (String two : "a b,b a,a c,c a,a d,d a,a e,e a,a f,f a,b c,f e".split(",")) {
            twelve += ";pull " + two + " 4";
        }
        taken(twelve, 6);
        told.due("pulls", Check.fitting(twelve).size(4), 12);
        faulty(twelve + ";pull c b 1", 5, twelve.length() + 1);
        // One that is there already is a LINE too many, too, and that is met first.
        faulty(twelve + ";pull a b 1", 5, twelve.length() + 1);
        told.terms("or stripe SEAM SEAM WHOLE (unlike; once in whatever order; 0 .. 7; up to 4)");
        whole(TWO + ";stripe s t ", 0, 7, "", 2);
        faultyAtLast(TWO + ";stripe s s", 3);
        faultyAtLast(TWO + ";stripe s t 0;stripe s t", 3);
        faultyAtLast(TWO + ";stripe s t 0;stripe t s", 3);
        taken(TWO + ";pull s t 1;stripe s t 0", 2);
        String four = six + ";stripe a b 0;stripe c a 7;stripe e f 1;stripe b c 2";
        taken(four, 6);
        told.due("stripes", Check.fitting(four).size(5), 4);
        faulty(four + ";stripe d e 3", 5, four.length() + 1);
        taken(twelve + four.substring(six.length()), 6);
    }

    private static String sixSeams() {
        return Makers.BARE + Makers.six(100, 100);
    }

    private void feastLine() {
        told.terms("feast WHOLE chance WHOLE (a day, 0 .. 99, above all told ahead; 0 .. 100 in a hundred; up to 6),");
        whole(ONE + ";feast ", 0, 99, " chance 1", 1);
        whole(ONE + ";feast 1 chance ", 0, 100, "", 1);
        faulty(ONE + ";feast 5 chance 1;feast 5 chance 1", 4, ONE.length() + 24);
        faulty(ONE + ";feast 5 chance 1;feast 4 chance 1", 4, ONE.length() + 24);
        taken(ONE + ";feast 5 chance 1;feast 6 chance 1", 1);
        faulty(ONE + ";feast 5 chance 1;feast 9 chance 1;feast 7 chance 1", 4, ONE.length() + 41);
        faulty(ONE + ";feast 99 chance 1;feast 99 chance 1", 4, ONE.length() + 25);
        faulty(ONE + ";feast 0 chance 1;feast 0 chance 1", 4, ONE.length() + 24);
        String six = ONE + ";feast 0 chance 1;feast 1 chance 1;feast 2 chance 1;feast 3 chance 1;feast 4 chance 1"
            + ";feast 98 chance 1";
        taken(six, 1);
        told.due("feasts", Check.fitting(six).size(6), 6);
        faulty(six + ";feast 99 chance 1", 5, six.length() + 1);
    }

    private void readLine() {
        told.terms("or read MEASURE WHOLE WHOLE (a day, 0 .. 99; 60 .. 500; up to 8)");
        whole(ONE + ";read m ", 0, 99, " 60", 1);
        whole(ONE + ";read m 0 ", 60, 500, "", 1);
        String eight = ONE + ";read m 0 60".repeat(7) + ";read m 99 500";
        taken(eight, 1);
        told.due("READ", Check.fitting(eight).size(7), 8);
        faulty(eight + ";read m 0 60", 5, eight.length() + 1);
        // Days of these need not be above those told ahead.
        taken(ONE + ";read m 9 60;read m 8 61;read m 9 60", 1);
    }

    private void names() {
        told.terms("NAMES are WORDS but suit, measure, seam, pull, stripe, feast, read; each told once, ahead of"
            + " its use.");
        for (String name : RESERVED) {
            faulty(ONE.replace("seam s", "seam " + name), 1, ONE.indexOf("seam s") + 5);
            faulty(ONE.replace("measure m", "measure " + name), 1, ONE.indexOf("measure m") + 8);
            faultyAtLast(ONE + ";read " + name, 1);
            faultyAtLast(ONE + ";pull " + name, 1);
            faultyAtLast(ONE + ";stripe s " + name, 1);
            faultyAtLast(Makers.BARE + "seam s plain at " + name, 1);
        }
        String others = "within wedding body holds grows plain striped pulling worn at size left chance suits";
        for (String name : others.split(" ")) {
            taken(ONE.replace("seam s", "seam " + name), 1);
            taken(ONE.replace("measure m", "measure " + name).replace("at m", "at " + name), 1);
        }
        faultyAtLast(ONE + ";measure s", 3);
        faultyAtLast(ONE + ";seam m", 3);
        faultyAtLast(SUIT + ";seam s plain at m", 2);
    }

    private void firstFromTheLeft() {
        told.terms("FAULTS, the first that is met from the left, of one place the least number:");
        faulty("suit within 10 wedding 100;?", 4, 12);
        faulty("measure m body 39;suit", 6, 0);
        faulty(ONE + ";pull x s 9", 2, ONE.length() + 6);
        faulty(ONE + ";seam m worn at x", 3, ONE.length() + 6);
        faulty(ONE + ";read m 100 59", 4, ONE.length() + 8);
        // The end of a text that goes on is FORM, though a seam is lacking there, too.
        faultyAtEnd(SUIT + ";", 1);
        faultyAtEnd(SUIT + ";measure m", 1);
        // A WORD that is no NAME is FORM, though it isn't told, either.
        faultyAtLast(TWO + ";pull s seam", 1);
        // A second suit is one told again, though there is room for one alone.
        faultyAtLast(ONE + ";suit", 3);
        // A seventh is a LINE too many, ahead of its NAME, which is told again.
        faulty(sixSeams() + ";seam a", 5, sixSeams().length() + 1);
        // What is no TOKEN counts only if it is met.
        faulty(ONE + ";seam s ?", 3, ONE.length() + 6);
        faulty(ONE + ";seam x ?", 1, ONE.length() + 8);
    }

    private void form() {
        told.terms("1 FORM: the first byte that begins no TOKEN, or TOKEN with which no SUIT goes on (the end: its"
            + " place).");
        faulty("", 1, 0);
        faulty(" ", 1, 1);
        faulty("?", 1, 0);
        faulty("7", 1, 0);
        faulty("within", 1, 0);
        String line = "suit within 0 wedding 50;measure m body 100 holds 0 grows 1;seam s plain at m size 100 left 0"
            + ";seam t striped at m size 100 left 0;pull s t 1;stripe s t 0;feast 1 chance 1;read m 0 60";
        taken(line, 2);
        String[] words = line.replace(";", " ; ").split(" ");
        StringBuilder ahead = new StringBuilder();
        for (int i = 0; i < words.length; i++) {
            // Cut off within a LINE the end is FORM; behind one the text is whole, or lacks a seam.
            if (!words[i].equals(";")) {
                faultyAtEnd(ahead.toString(), 1);
                faultyAtEnd(ahead + "  ", 1);
            }
            String wrong = words[i].matches("[0-9]+|;") ? "x" : "7";
            faulty(ahead + wrong, 1, ahead.length());
            faulty(ahead + "?", 1, ahead.length());
            ahead.append(words[i]).append(' ');
        }
        byte[] high = "suit within 0 wedding 9".getBytes(StandardCharsets.ISO_8859_1);
        high[22] = (byte) ('9' + 128);
        faulty(new String(high, StandardCharsets.ISO_8859_1), 1, 22);
    }

    private void untold() {
        told.terms("2 a NAME that isn't told, or is of another sort than must stand there; at it.");
        faultyAtLast(TWO + ";seam u plain at u", 2);
        faultyAtLast(TWO + ";seam u plain at x", 2);
        faultyAtLast(TWO + ";seam u plain at s", 2);
        faultyAtLast(TWO + ";pull x", 2);
        faultyAtLast(TWO + ";pull m", 2);
        faultyAtLast(TWO + ";pull s x", 2);
        faultyAtLast(TWO + ";pull s m", 2);
        faultyAtLast(TWO + ";stripe x", 2);
        faultyAtLast(TWO + ";stripe m", 2);
        faultyAtLast(TWO + ";stripe t x", 2);
        faultyAtLast(TWO + ";stripe t m", 2);
        faultyAtLast(TWO + ";read x", 2);
        faultyAtLast(TWO + ";read t", 2);
        faultyAtLast(TWO + ";read ss", 2);
        // A NAME of the suit that there is isn't told in the text.
        faultyAtLast(TWO + ";read chest", 2);
    }

    private void again() {
        told.terms("3 a NAME told again; at it;");
        faultyAtLast(TWO + ";measure m", 3);
        faultyAtLast(TWO + ";measure t", 3);
        faultyAtLast(TWO + ";seam s", 3);
        faultyAtLast(TWO + ";seam m", 3);
        taken(TWO + ";measure ss body 40 holds 0 grows 0", 2);
        told.terms("a second SEAM that is the first, or with which there is that pull, a stripe, already; at it;");
        faultyAtLast(TWO + ";pull s s", 3);
        faultyAtLast(TWO + ";stripe t t", 3);
        faultyAtLast(TWO + ";pull t s 1;pull s t 1;pull t s", 3);
        faultyAtLast(TWO + ";stripe t s 1;stripe t s", 3);
        faultyAtLast(TWO + ";stripe t s 1;stripe s t", 3);
        taken(TWO + ";stripe t s 1;pull t s 1", 2);
        told.terms("a second suit: at that WORD.");
        faultyAtLast(SUIT + ";suit", 3);
        faultyAtLast(SUIT + "; suit", 3);
        faulty(ONE + ";suit within 0 wedding 50", 3, ONE.length() + 1);
        faulty(ONE + ";suit ?", 3, ONE.length() + 1);
    }

    private void bounds() {
        told.terms("4 a WHOLE out of bounds; at it.");
        faulty("suit within   10", 4, 14);
        faulty("suit within10", 4, 11);
        faulty("suit within 010 wedding 1", 4, 12);
        faulty("suit within 0 wedding 000", 4, 22);
        faulty("suit within 0 wedding 00", 4, 22);
        // The rest of the LINE need not be there.
        faultyAtLast(ONE + ";feast 100", 4);
        faultyAtLast(ONE + ";read m 100", 4);
    }

    private void many() {
        told.terms("5 MANY: a LINE more of its sort than there is room for, at its first WORD.");
        String six = sixSeams();
        faulty(six + ";seam", 5, six.length() + 1);
        faulty(six + ";  seam ?", 5, six.length() + 3);
        String full = six + ";feast 1 chance 1;feast 2 chance 1;feast 3 chance 1;feast 4 chance 1;feast 5 chance 1"
            + ";feast 6 chance 1";
        faulty(full + ";feast 100", 5, full.length() + 1);
        // Room for one sort is none for another.
        taken(full + ";read m 0 60".repeat(8), 6);
        taken(full + ";measure k body 40 holds 0 grows 0", 6);
    }

    private void lacks() {
        told.terms("6 LACKS: any LINE ahead of the suit; at its WORD;");
        for (String name : RESERVED) {
            if (!name.equals("suit")) {
                faulty(name, 6, 0);
                faulty("   " + name + " ?", 6, 3);
                faulty(name + " m body 100 holds 0 grows 0;" + ONE, 6, 0);
            }
        }
        told.terms("at the end: no seam.");
        faultyAtEnd(SUIT, 6);
        faultyAtEnd(SUIT + "   ", 6);
        faultyAtEnd(SUIT + ";measure m body 100 holds 0 grows 0", 6);
        faultyAtEnd(SUIT + ";feast 1 chance 1", 6);
        faultyAtEnd(SUIT + ";measure m body 100 holds 0 grows 0;read m 0 60;feast 1 chance 1 ", 6);
        told.faulty(Makers::blank, SUIT, 6, SUIT.length());
    }
}
