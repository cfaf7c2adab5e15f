/** Promises 32 to 47 but 43, and what Terms III say of them: chances, visits, what he is, what gives, months. */
final class LaterEdges {
    private final Sentences told;

    LaterEdges(Sentences told) {
        this.told = told;
    }

    void all() {
        enough();
        lowestTerms();
        need();
        leave();
        visits();
        when();
        truly();
        widest();
        judge();
        part();
        meetBy();
        tight();
        month();
        months();
    }

    private static String plain(String name, int size, int left) {
        return Makers.plain(name, size, left);
    }

    private static SecondFitting grows(int grows, String... lines) {
        String head = "suit within 0 wedding 50;measure m body 100 holds 0 grows " + grows;
        return Makers.made(head, String.join(";", lines));
    }

    private void odds(String what, SecondFitting x, int day, long upper, long lower) {
        told.fine(x, what + ", the upper", x.enough(0, day, false), upper);
        told.fine(x, what + ", the lower", x.enough(0, day, true), lower);
    }

    private void enough() {
        told.terms("ENOUGH: each feast up to a day is kept by its chance, or isn't (nothing grows by it then):");
        SecondFitting x = Makers.bare(plain("a", 100, 0), "feast 5 chance 50;feast 9 chance 0;feast 20 chance 100");
        odds("ahead of the feast", x, 4, 1, 1);
        odds("on the feast", x, 5, 1, 2);
        odds("behind one that is never kept", x, 9, 1, 2);
        odds("ahead of one that is always kept", x, 19, 1, 2);
        odds("on one that is always kept", x, 20, 0, 1);
        odds("on the last day", x, 99, 0, 1);
        // Feasts behind the wedding are up to a day, too.
        odds("behind the wedding", Makers.bare(plain("a", 100, 0), "feast 99 chance 1"), 99, 99, 100);
        odds("behind the wedding, the day ahead", Makers.bare(plain("a", 100, 0), "feast 99 chance 1"), 98, 1, 1);
        told.terms("how likely BODY of a seam's measure on that day is no more than SIZE and left together.");
        String feasts = ";feast 1 chance 50;feast 2 chance 50";
        odds("less by 1", Makers.bare(plain("a", 90, 9) + feasts), 2, 0, 1);
        odds("as much as at first", Makers.bare(plain("a", 90, 10) + feasts), 2, 1, 4);
        odds("as much as by one", Makers.bare(plain("a", 90, 11) + feasts), 2, 3, 4);
        odds("as much as by both", Makers.bare(plain("a", 90, 12) + feasts), 2, 1, 1);
        odds("more", Makers.bare(plain("a", 500, 20) + feasts), 2, 1, 1);
        SecondFitting y = Makers.bare(Makers.seam("a", "worn", 90, 10) + feasts);
        y.pin(0, 9);
        odds("pinned, so much less is left", y, 2, 1, 4);
        y.pin(0, -9);
        y.pin(0, -9);
        odds("pinned in, so much more is left", y, 2, 1, 4);
        y.wear(10);
        odds("worn, it gives", y, 2, 3, 4);
    }

    private void lowestTerms() {
        told.of(32, "ENOUGH, the upper WHOLE or the lower, in lowest terms (0 by 1).");
        odds("0 by 1", Makers.bare(plain("a", 99, 0)), 0, 0, 1);
        odds("0 by 1 with feasts", Makers.bare(plain("a", 99, 0), "feast 0 chance 37"), 99, 0, 1);
        odds("1 by 1", Makers.bare(plain("a", 100, 0), "feast 0 chance 0"), 99, 1, 1);
        odds("lowest terms", Makers.bare(plain("a", 100, 0), "feast 0 chance 20"), 99, 4, 5);
        String six = ";feast 0 chance 99;feast 1 chance 99;feast 2 chance 99;feast 3 chance 99;feast 4 chance 99"
            + ";feast 5 chance 99";
        odds("none of six", Makers.bare(plain("a", 100, 0) + six), 99, 1, 1000000000000L);
        // 1 less 99 times itself, six times, by 100 likewise.
        odds("not all of six", Makers.bare(plain("a", 105, 0) + six), 99, 58519850599L, 1000000000000L);
    }

    private void need() {
        told.terms("NEED: how much must be left for BODY on a day if all feasts are kept.");
        SecondFitting x = grows(9, plain("a", 100, 3), "feast 5 chance 0;feast 50 chance 1;feast 51 chance 1");
        told.fine(x, "ahead of all", x.need(0, 4), 0);
        told.fine(x, "on the feast", x.need(0, 5), 9);
        told.fine(x, "on the wedding", x.need(0, 50), 18);
        told.fine(x, "behind it", x.need(0, 99), 27);
        told.of(33, "NEED (0 at least).");
        told.due("too much by 1", Makers.bare(plain("a", 101, 0)).need(0, 99), 0);
        told.due("just enough", Makers.bare(plain("a", 100, 0)).need(0, 99), 0);
        told.due("too little by 1", Makers.bare(plain("a", 99, 20)).need(0, 99), 1);
        told.due("too little by 80", Makers.bare(plain("a", 20, 0)).need(0, 99), 80);
    }

    private void leave() {
        told.of(34, "The least that must be left (0 at least), in place of what is, for ENOUGH on the wedding to be"
            + " so many in a hundred"
            + " (0 .. 100) at least.");
        String feasts = ";feast 1 chance 50;feast 50 chance 50;feast 51 chance 100";
        SecondFitting x = Makers.bare(plain("a", 99, 20), plain("b", 200, 0) + feasts);
        int[][] due = {{0, 0}, {1, 1}, {25, 1}, {26, 2}, {75, 2}, {76, 3}, {99, 3}, {100, 3}};
        for (int[] one : due) {
            told.fine(x, one[0] + " in a hundred", x.leave(0, one[0]), one[1]);
            told.fine(x, one[0] + " in a hundred, more than enough", x.leave(1, one[0]), 0);
        }
        x = grows(0, plain("a", 100, 0) + feasts);
        told.fine(x, "it doesn't grow", x.leave(0, 100), 0);
        x = Makers.bare(plain("a", 100, 0), "feast 1 chance 1;feast 2 chance 100;feast 3 chance 0");
        told.fine(x, "99 in a hundred", x.leave(0, 99), 1);
        told.fine(x, "one more", x.leave(0, 100), 2);
        // What is just as likely as is asked for is enough: 99 by 99 in ten thousand is 98 and 1 in a hundred.
        x = Makers.bare(plain("a", 100, 0), "feast 1 chance 1;feast 2 chance 1");
        told.fine(x, "98 in a hundred", x.leave(0, 98), 0);
        told.fine(x, "99 in a hundred", x.leave(0, 99), 1);
        told.fine(x, "a hundred", x.leave(0, 100), 2);
    }

    private void visitDays(String what, SecondFitting x, int... days) {
        told.fine(x, what, x.visits(), days.length);
        for (int i = 0; i < days.length; i++) {
            told.fine(x, what + ", at " + i, x.visitAt(i), days[i]);
        }
        told.due(what + ", no more", x.visitAt(days.length), -1);
        told.due(what + ", no more, trouble", x.trouble(), 1);
    }

    private void visits() {
        told.terms("VISITS: days up to the wedding: NOW is the first of them;");
        SecondFitting x = Makers.bare(plain("a", 100, 0), "feast 0 chance 0;feast 50 chance 0;feast 51 chance 0");
        visitDays("from the first day", x, 0, 50);
        x.days(49);
        visitDays("from the day ahead of the wedding", x, 49, 50);
        x.days(1);
        visitDays("from the wedding", x, 50);
        told.of(35, "VISITS: how many; -2 the wedding is past.");
        x.days(1);
        told.fine(x, "on the day behind", x.visits(), -2);
        told.due("none", x.visitAt(0), -1);
        told.due("none, trouble", x.trouble(), 1);
        x.days(48);
        told.fine(x, "on the last day", x.visits(), -2);
        told.fine(Makers.bare(plain("a", 100, 0)), "one", Makers.bare(plain("a", 100, 0)).visits(), 1);
        told.terms("behind each the next is the first day on which some measure that has a seam has grown by more than"
            + " within since that one.");
        String feasts = ";feast 1 chance 0;feast 2 chance 0;feast 3 chance 0;feast 4 chance 0;feast 5 chance 0"
            + ";feast 6 chance 0";
        String head = " wedding 50;measure m body 100 holds 0 grows 1;measure k body 100 holds 0 grows 9;";
        visitDays("each feast", Makers.made("suit within 0" + head + plain("a", 100, 0) + feasts), 0, 1, 2, 3, 4, 5, 6);
        visitDays("each second", Makers.made("suit within 1" + head + plain("a", 100, 0) + feasts), 0, 2, 4, 6);
        visitDays("each fourth", Makers.made("suit within 3" + head + plain("a", 100, 0) + feasts), 0, 4);
        visitDays("by 6 of 6", Makers.made("suit within 6" + head + plain("a", 100, 0) + feasts), 0);
        String ofK = plain("a", 100, 0).replace(" m ", " k ");
        visitDays("by 9 of 9", Makers.made("suit within 9" + head + ofK + feasts), 0, 2, 4, 6);
        visitDays("it doesn't grow", grows(0, plain("a", 100, 0) + feasts), 0);
        told.of(36, "The day of the i-th.");
        told.due("the first is NOW", Makers.worked().visitAt(0), 13);
        told.due("the second", Makers.worked().visitAt(1), 20);
    }

    private void cut(String what, SecondFitting x, int day, int amiss) {
        told.fine(x, what, x.when(), day);
        told.fine(x, what + ", amiss", x.whenAmiss(), amiss);
    }

    private void when() {
        told.terms("WHEN: all seams cut on a day (0 up to the wedding) to what is MEASURED then: the day by which"
            + " all that is"
            + " AMISS standing on the wedding, without signs, together is least; the first such.");
        String head = "suit within 0 wedding 1;measure m body 100 holds 20 grows 9;measure k body 100 holds 0 grows 9;";
        cut("on the wedding", Makers.made(head + plain("a", 500, 0), "feast 1 chance 0"), 1, 20);
        cut("ahead of a feast behind it", Makers.made(head + plain("a", 500, 0), "feast 2 chance 0"), 0, 20);
        cut("the first", Makers.made(head + plain("a", 500, 0), "feast 0 chance 0"), 0, 20);
        told.of(37, "WHEN.");
        SecondFitting x = Makers.made("suit within 0 wedding 99;measure m body 100 holds 0 grows 1;"
            + "measure k body 90 holds 3 grows 2;" + plain("a", 100, 0), plain("b", 100, 0).replace(" m ", " k "),
            "feast 7 chance 0;feast 98 chance 0");
        cut("the last feast", x, 98, 3);
        x.wear(60);
        cut("whatever day it is", x, 98, 3);
        told.of(38, "What is AMISS together by it.");
        cut("nothing", Makers.bare(plain("a", 20, 0)), 0, 0);
        cut("what two hold", Makers.made(head + plain("a", 500, 0), plain("b", 20, 0)), 0, 40);
    }

    private void truths(String what, String lines, int least, int greatest) {
        SecondFitting x = Makers.made("suit within 0 wedding 50;measure m body 100 holds 4 grows 2"
            + ";measure k body 100 holds 0 grows 0;"
            + plain("a", 100, 0) + lines);
        told.fine(x, what + ", least", x.truly(0, false), least);
        told.fine(x, what + ", greatest", x.truly(0, true), greatest);
    }

    private void truly() {
        told.terms("TRULY: by all that was READ of a measure: BODY as told is at least READ less what it has grown"
            + " up to that"
            + " day, at most so much and what it holds: the least and the greatest that can be.");
        truths("one", ";read m 0 97", 97, 101);
        truths("two", ";read m 0 97;read m 0 99", 99, 101);
        truths("on the day ahead of a feast", ";feast 9 chance 0;read m 8 97", 97, 101);
        truths("on a feast", ";feast 9 chance 0;read m 9 97", 95, 99);
        truths("on the last day", ";feast 99 chance 0;read m 99 97", 95, 99);
        truths("of another measure", ";read m 0 97;read k 0 60", 97, 101);
        truths("the least that is read", ";read m 0 60", 60, 64);
        truths("the greatest that is read", ";read m 0 500", 500, 504);
        told.of(39, "TRULY: the least (or, most, the greatest); -2 there is none such, or nothing was READ.");
        truths("one alone that can be", ";read m 0 97;read m 0 101", 101, 101);
        truths("none that can be", ";read m 0 97;read m 0 102", -2, -2);
        truths("nothing was READ", "", -2, -2);
        truths("nothing of it was READ", ";read k 0 97", -2, -2);
        truths("eight", ";read m 0 97;read m 0 98;read m 0 99;read m 0 100;read m 0 99;read m 0 98;read m 0 97"
            + ";read m 0 101", 101, 101);
    }

    private void widest(String what, String lines, int due) {
        SecondFitting x = Makers.made("suit within 0 wedding 50;measure m body 100 holds 4 grows 2"
            + ";measure k body 100 holds 4 grows 0;"
            + "measure l body 100 holds 0 grows 0;" + plain("a", 100, 0) + lines);
        told.fine(x, what, x.widest(), due);
    }

    private void widest() {
        told.of(40, "The measure of which TRULY tells least: greatest less least is most (one never READ tells less"
            + " than any; one of which"
            + " there is none such most), the first such; -2 there is no measure.");
        widest("none READ", "", 0);
        widest("the second isn't READ", ";read m 0 97;read l 0 97", 1);
        widest("two aren't READ", ";read m 0 97", 1);
        widest("the first of like ones", ";read m 0 97;read k 0 97;read l 0 97", 0);
        widest("the second by 1", ";read m 0 97;read m 0 98;read k 0 97;read l 0 97", 1);
        widest("by 0 ahead of none such", ";read m 0 97;read m 0 102;read k 0 97;read k 0 102;read l 0 97", 2);
        widest("none such of all", ";read m 0 97;read m 0 102;read k 0 97;read k 0 109;read l 0 97;read l 0 98", 0);
        widest("never READ ahead of none such", ";read m 0 97;read m 0 102;read k 0 97;read k 0 102", 2);
        // A suit has a seam, and that has a measure: without one there is no suit.
        told.due("there is no measure", new SecondFitting().widest(), -1);
        told.due("20 held", Makers.made("suit within 0 wedding 50;measure m body 100 holds 19 grows 2;"
            + "measure k body 100 holds 20 grows 0;" + plain("a", 100, 0) + ";read m 0 97;read k 0 97").widest(), 1);
    }

    private void judged(String what, String lines, int due) {
        SecondFitting x = Makers.made("suit within 0 wedding 50;measure m body 100 holds 4 grows 2;"
            + plain("a", 100, 0) + lines);
        told.fine(x, what, x.judge(), due);
    }

    private void judge() {
        told.of(41, "The first READ that can't be by BODY as told; -2.");
        judged("none READ", "", -2);
        judged("as MEASURED", ";read m 0 96", -2);
        judged("less by 1", ";read m 0 95", 0);
        judged("as BODY", ";read m 0 100", -2);
        judged("more by 1", ";read m 0 101", 0);
        judged("the first", ";read m 0 98;read m 0 101;read m 0 95", 1);
        judged("the last of eight", ";read m 0 98".repeat(7) + ";read m 0 101", 7);
        judged("on a feast", ";feast 99 chance 0;read m 99 102;read m 99 98;read m 98 102", 2);
    }

    private void part() {
        told.terms("HE: what is AMISS at a seam standing on a day by what the measure has grown up to it (0 or below);"
            + " THE SUIT: the rest.");
        SecondFitting x = grows(9, Makers.seam("a", "pulling", 104, 9), "feast 5 chance 0;feast 99 chance 0");
        told.due("he, ahead of all", x.part(0, 4, false), 0);
        told.due("he, on a feast", x.part(0, 5, false), -9);
        told.due("he, on the last day", x.part(0, 99, false), -18);
        told.due("the suit", x.part(0, 0, true), 4);
        told.due("the suit on the last day", x.part(0, 99, true), 4);
        told.of(42, "HE (or THE SUIT).");
        x.pin(0, -5);
        told.fine(x, "pinned", x.part(0, 99, true), -1);
        told.fine(x, "he all the same", x.part(0, 99, false), -18);
        x = grows(0, plain("a", 20, 0), "feast 5 chance 0");
        told.fine(x, "he doesn't grow", x.part(0, 99, false), 0);
        told.fine(x, "the suit is far too small", x.part(0, 99, true), -80);
    }

    private void meets(String what, String first, String more, int lie, int due) {
        SecondFitting x = Makers.bare(first, plain("b", 100, 0) + more + ";stripe a b " + lie);
        told.fine(x, what, x.meetBy(0), due);
        told.due(what + ", nothing is pinned", x.size(10), 0);
    }

    private void meetBy() {
        told.of(44, "The PIN at its first seam of fewest eighths by which a STRIPE MEETS (pulls, too), out ahead of"
            + " in; 0 if it does;"
            + " 100 if none does.");
        meets("it does", plain("a", 107, 9), "", 7, 0);
        meets("out by 1", plain("a", 107, 1), "", 0, 1);
        meets("in by 7, as nothing is left", plain("a", 107, 0), "", 0, -7);
        meets("out by 4 ahead of in", plain("a", 100, 4), "", 4, 4);
        meets("in by 4, as 3 are left", plain("a", 100, 3), "", 4, -4);
        meets("in by 3", plain("a", 100, 9), "", 5, -3);
        meets("out by 3", plain("a", 100, 9), "", 3, 3);
        meets("a striped one by 4", Makers.seam("a", "striped", 100, 4), "", 4, 4);
        meets("a striped one by none", Makers.seam("a", "striped", 100, 20), "", 1, 100);
        meets("a pull at it", plain("a", 100, 9), ";pull a b 1", 2, 1);
        meets("a pull of 4", plain("a", 100, 9), ";pull a b 4", 5, 1);
        meets("a pull of 1, none does", plain("a", 100, 9), ";pull a b 1", 1, 100);
        meets("a pull of 3, one of two", plain("a", 100, 9), ";pull a b 3", 4, 1);
        meets("a pull of 3, none does", plain("a", 100, 9), ";pull a b 3", 2, 100);
        meets("a pull of the other doesn't count", plain("a", 100, 9), ";pull b a 4", 1, 1);
        meets("by 8 it is as it was", plain("a", 100, 9), ";pull a b 1", 7, 100);
        meets("below 0", plain("a", 99, 0), "", 6, -1);
    }

    private void tight() {
        told.of(45, "Which SIZE a seam must have NOW so that nothing is AMISS standing on that day behind so many"
            + " days of WEAR more"
            + " (0 .. 90), from NOW on.");
        SecondFitting x = Makers.bare(Makers.seam("a", "worn", 90, 0), plain("b", 90, 0),
            "feast 0 chance 0;feast 30 chance 0;feast 90 chance 1;feast 99 chance 1");
        int[][] due = {{0, 101}, {9, 101}, {10, 100}, {19, 100}, {20, 99}, {29, 99}, {30, 99}, {89, 94}, {90, 94}};
        for (int[] one : due) {
            told.fine(x, "behind " + one[0], x.tight(0, one[0]), one[1]);
        }
        told.due("91 days", x.tight(0, 91), -1);
        told.due("91 days, trouble", x.trouble(), 2);
        told.due("-1 days", x.tight(0, -1), -1);
        told.due("-1 days, trouble", x.trouble(), 2);
        told.fine(x, "what gives nothing", x.tight(1, 89), 102);
        told.fine(x, "what gives nothing, on a feast", x.tight(1, 90), 103);
        x.wear(9);
        told.fine(x, "up to day 99", x.tight(0, 90), 104 - 9);
        told.fine(x, "9 and 0", x.tight(0, 0), 101);
        told.fine(x, "9 and 1", x.tight(0, 1), 100);
        told.due("91 days", x.tight(0, 91), -1);
        x.days(1);
        told.due("beyond day 99", x.tight(0, 90), -1);
        told.due("beyond day 99, trouble", x.trouble(), 2);
        told.fine(x, "up to day 99", x.tight(0, 89), 104 - 9);
        x.days(60);
        x.days(29);
        told.fine(x, "on day 99", x.tight(0, 0), 104);
        told.due("on day 99, one more", x.tight(0, 1), -1);
        told.due("on day 99, one more, trouble", x.trouble(), 2);
        x = Makers.bare(Makers.seam("a", "worn", 90, 0));
        x.wear(15);
        told.fine(x, "15 and 4", x.tight(0, 4), 100);
        told.fine(x, "15 and 5", x.tight(0, 5), 99);
        // It really fits then: cut so, nothing is amiss behind the wear.
        SecondFitting y = Makers.bare(Makers.seam("a", "worn", 99, 0), "feast 30 chance 0");
        told.due("as it is", y.tight(0, 20), 98);
        y.pin(0, -1);
        y.wear(20);
        told.due("nothing is amiss", y.amiss(0, 20, 0), 0);
    }

    private void month() {
        told.terms("A MONTH by a SEED: each feast up to the wedding is kept if a DRAW mod 100 is below its chance"
            + " (SEED becomes (75 times SEED and 74) mod 65,537): all that is AMISS standing on the wedding,"
            + " without signs, together;");
        // The first DRAW by 0 is 74, by 3 it is 299, by 1,748 it is 131,174, and that is 100.
        int[][] due = {{0, 74, 0}, {0, 75, 1}, {3, 99, 0}, {3, 100, 1}, {1748, 0, 0}, {1748, 1, 1}};
        for (int[] one : due) {
            SecondFitting x = Makers.bare(plain("a", 100, 0), "feast 5 chance " + one[1]);
            told.fine(x, "by " + one[0] + ", chance " + one[1], x.month(one[0]), one[2]);
        }
        // 74 and 5,624 by 0, 5,624 and 28,652 by 74: the second is below 25, then below 53.
        SecondFitting x = Makers.bare(plain("a", 100, 0), "feast 49 chance 0;feast 50 chance 25;feast 51 chance 100");
        told.fine(x, "on the wedding", x.month(0), 1);
        told.fine(x, "on the wedding, not below", x.month(74), 0);
        x = Makers.bare(plain("a", 100, 0), plain("b", 102, 0), Makers.seam("c", "worn", 100, 0), "feast 5 chance 75");
        told.fine(x, "too much and too little", x.month(0), 1 + 1 + 1);
        x.wear(60);
        told.fine(x, "whatever day it is", x.month(0), 1 + 1 + 5);
        told.of(46, "A MONTH by a SEED (0 .. 65,536).");
        x = Makers.bare(plain("a", 100, 0), "feast 5 chance 36;feast 6 chance 37");
        // 65,536 becomes itself: 36.
        told.fine(x, "by 65,536", x.month(65536), 1);
        told.fine(x, "by 0", x.month(0), 1);
        told.fine(x, "by 0 again", x.month(0), 1);
        told.fine(Makers.bare(plain("a", 99, 0)), "without a feast", Makers.bare(plain("a", 99, 0)).month(0), 1);
    }

    private void months() {
        told.terms("a YEAR OF n of these: SEED goes on.");
        // By 0, in turn: 74, 5,624, 28,652, 51,790.
        SecondFitting x = Makers.bare(plain("a", 100, 0), "feast 5 chance 53");
        told.due("74 isn't below", x.months(0, 1), 1);
        told.due("24 is", x.months(0, 2), 1);
        told.due("52 is", x.months(0, 3), 1);
        told.due("90 isn't", x.months(0, 4), 2);
        x = Makers.bare(plain("a", 100, 0), "feast 50 chance 53;feast 51 chance 53");
        told.due("no DRAW for one behind the wedding", x.months(0, 4), 2);
        x = Makers.bare(plain("a", 101, 0), "feast 5 chance 53;feast 6 chance 53");
        told.due("two DRAWS in each: 74 and 24, 52 and 90", x.months(0, 2), 2);
        told.of(47, "In how many of n (1 .. 60) MONTHS it fits standing on the wedding.");
        x = Makers.bare(Makers.seam("a", "worn", 100, 0), "feast 50 chance 37;feast 51 chance 100");
        told.fine(x, "none of 60", x.months(65536, 60), 0);
        x = Makers.bare(Makers.seam("a", "worn", 100, 0), "feast 50 chance 36;feast 51 chance 100");
        told.fine(x, "all of 60", x.months(65536, 60), 60);
        told.fine(x, "one of one", x.months(65536, 1), 1);
        x = Makers.within(1, plain("a", 101, 0));
        told.fine(x, "amiss by within", x.months(0, 60), 60);
        x = Makers.within(1, plain("a", 102, 0));
        told.fine(x, "amiss by more", x.months(0, 60), 0);
    }
}
