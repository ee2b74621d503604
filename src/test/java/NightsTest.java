/** Promises 29 to 35. */
public final class NightsTest {
    private static final String BARN =
            "man al 2 3 5;man bo 1 2 9;way 20;pails 3 10;well 4 100;cells 9;burn 0 0;";

    public static void main(String[] args) {
        noPlan();
        rowsAtNight();
        newOnesBegin();
        aimsAtNight();
        giving();
        saying();
        newYards();
        images();
        wholeImages();
        counting();
        Check.end();
    }

    private static PailRow planned(String yard, String plan) {
        PailRow x = Check.yard(yard);
        int things = Check.tape(x, plan).plan();
        if (things < 0) {
            Check.due("plan " + plan, things, 0);
        }
        return x;
    }

    private static void dueNight(PailRow x, int m, int thrown, int lost, int burns, int water) {
        Check.due("night(" + m + ", 0)", x.night(m, 0), thrown);
        Check.due("night(" + m + ", 1)", x.night(m, 1), lost);
        Check.due("night(" + m + ", 2)", x.night(m, 2), burns);
        Check.due("night(" + m + ", 3)", x.night(m, 3), water);
    }

    private static void noPlan() {
        PailRow x = Check.yard(BARN);
        dueNight(x, 0, 0, 1, 1, 100);
        dueNight(x, 7, 0, 8, 1, 100);
        dueNight(x, 8, 0, 9, 0, 100);
        dueNight(x, 59, 0, 9, 0, 100);
        Check.due("night(-1, 0)", x.night(-1, 0), PailRow.NONE);
        Check.due("night(60, 0)", x.night(60, 0), PailRow.NONE);
        Check.due("night(0, 4)", x.night(0, 4), PailRow.NONE);
        Check.due("night(0, -1)", x.night(0, -1), PailRow.NONE);
    }

    private static void rowsAtNight() {
        PailRow x = planned(BARN, "at 0 row al bo;at 2 stop;");
        dueNight(x, 0, 40, 1, 1, 40);
        dueNight(x, 1, 50, 1, 0, 0);
        dueNight(x, 2, 0, 1, 0, 0);
        // A minute's row goes on where the minute ahead left it.
        PailRow row = Check.yard(BARN);
        int first = Check.men(row, 0, 1).row(60);
        int both = Check.men(row, 0, 1).row(120);
        Check.duePlan(row, "at 3 row al bo;", 1, 0);
        Check.due("night(2, 0)", row.night(2, 0), 0);
        Check.due("night(3, 0)", row.night(3, 0), first);
        Check.due("night(4, 0)", row.night(4, 0), both - first);
        PailRow run = Check.yard(BARN);
        first = Check.men(run, 1, 0).running(60);
        both = Check.men(run, 1, 0).running(120);
        Check.duePlan(run, "at 0 run bo al;", 1, 0);
        Check.due("night(0, 0)", run.night(0, 0), first);
        Check.due("night(1, 0)", run.night(1, 0), both - first);
        Check.due("night(0, 0) of one", planned(BARN, "at 0 run al;").night(0, 0), 15);
        Check.due("night(0, 3) of one", planned(BARN, "at 0 run al;").night(0, 3), 60);
    }

    private static void newOnesBegin() {
        // The well's litres stay, all pails are at the well again: the row begins anew each minute.
        PailRow x = planned(BARN, "at 0 row al bo;at 1 row al bo;at 2 row al bo;");
        Check.due("night(0, 0)", x.night(0, 0), 40);
        Check.due("night(0, 3)", x.night(0, 3), 40);
        Check.due("night(1, 0)", x.night(1, 0), 40);
        Check.due("night(1, 3)", x.night(1, 3), 0);
        Check.due("night(2, 0)", x.night(2, 0), 0);
        // What is told last in a minute counts.
        PailRow stopped = planned(BARN, "at 0 row al bo;at 0 stop;");
        dueNight(stopped, 0, 0, 1, 1, 100);
        PailRow changed = planned(BARN, "at 0 row al bo;at 0 run al;");
        Check.due("night(0, 0)", changed.night(0, 0), 15);
        // Nobody is tired in a new row.
        String weak = "man al 1 1 1;man bo 1 1 1;way 10;pails 1 10;well 1 9999;back 3;throw 1;";
        PailRow tired = planned(weak, "at 0 row al bo;");
        PailRow fresh = planned(weak, "at 0 row al bo;at 3 row al bo;");
        PailRow once = Check.yard(weak);
        int three = Check.men(once, 0, 1).row(180);
        Check.due("night(3, 0) tired", tired.night(3, 0), Check.men(once, 0, 1).row(240) - three);
        Check.due("night(3, 0) fresh", fresh.night(3, 0), Check.men(once, 0, 1).row(60));
    }

    private static void aimsAtNight() {
        String two = "man al 1 9 99;man bo 1 9 99;way 10;pails 9 9;well 1 9999;throw 1;cells 309;burn 0 0;burn 2 0;";
        PailRow x = planned(two, "at 0 row al bo;");
        Check.due("night(0, 0)", x.night(0, 0) >= 90, true);
        Check.due("aim 1: the fullest goes out first", x.night(0, 1), 1);
        Check.due("night(0, 2)", x.night(0, 2), 1);
        PailRow least = planned(two, "at 0 aim 2;at 0 row al bo;");
        Check.due("aim 2: the leanest goes out first", least.night(0, 1), 1);
        Check.due("then the other one", least.night(1, 1), 1);
        PailRow nowhere = planned(two, "at 0 row al bo;at 0 aim 0;");
        Check.due("aim 0", nowhere.night(59, 1), 12);
        PailRow cell = planned(two, "at 0 row al bo;at 0 aim 101;at 1 aim 100;");
        Check.due("aim 101", cell.night(0, 1), 2);
        Check.due("aim 100", cell.night(1, 1), 3);
        Check.due("aim 100", cell.night(59, 1), 10);
    }

    private static void giving() {
        PailRow x = planned("cells 99;burn 0 0;", "at 1 give 0;");
        dueNight(x, 0, 0, 1, 2, 9999);
        dueNight(x, 1, 0, 2, 1, 9999);
        dueNight(x, 59, 0, 10, 0, 9999);
        PailRow early = planned("cells 99;burn 0 0;", "at 0 give 0;");
        dueNight(early, 0, 0, 0, 0, 9999);
        PailRow wall = planned("cells 99;burn 0 0;", "at 0 give 1;");
        dueNight(wall, 59, 0, 9, 0, 9999);
    }

    private static void dueSaid(PailRow x, String sentence, int minutes, int first, int last) {
        int ones = Check.tape(x, sentence).sentence();
        if (ones < 1) {
            Check.due("sentence " + sentence, ones, 1);
        }
        Check.due("said(-1) of " + sentence, x.said(-1), minutes);
        Check.due("said(0) of " + sentence, x.said(0), first);
        Check.due("last said of " + sentence, minutes > 0 ? x.said(minutes - 1) : PailRow.NONE, last);
        Check.due("said behind of " + sentence, x.said(minutes), PailRow.NONE);
        Check.due("said(-2) of " + sentence, x.said(-2), PailRow.NONE);
    }

    private static void saying() {
        PailRow x = planned(BARN, "at 0 row al bo;at 2 stop;");
        Check.due("said(-1) without a sentence", x.said(-1), PailRow.NONE);
        Check.due("said(0) without a sentence", x.said(0), PailRow.NONE);
        dueSaid(x, "out", 59, 1, 59);
        dueSaid(x, "not out", 1, 0, 0);
        dueSaid(x, "thrown>45", 1, 1, 1);
        dueSaid(x, "thrown=40", 1, 0, 0);
        dueSaid(x, "thrown<50", 59, 0, 59);
        dueSaid(x, "minute=59", 1, 59, 59);
        dueSaid(x, "minute<59", 59, 0, 58);
        dueSaid(x, "minute>59", 0, PailRow.NONE, PailRow.NONE);
        dueSaid(x, "lost=1", 60, 0, 59);
        dueSaid(x, "burns=1", 1, 0, 0);
        dueSaid(x, "water=40", 1, 0, 0);
        dueSaid(x, "minute<2 and not (burns=0 or water>50)", 1, 0, 0);
        // and binds closer than or, not closer than both.
        dueSaid(x, "minute=5 or minute=6 and out and minute=7", 1, 5, 5);
        dueSaid(x, "(minute=5 or minute=6) and minute>5", 1, 6, 6);
        dueSaid(x, "not minute=5 and minute<7", 6, 0, 6);
        dueSaid(x, "not (minute=5 and minute<7)", 59, 0, 59);
        dueSaid(x, "not not minute=5", 1, 5, 5);
        Check.due("a fault leaves it", Check.tape(x, "out out").sentence(), -5);
        Check.due("said(0)", x.said(0), 5);
        Check.duePlan(x, "", 0, 0);
        Check.dueSentence(x, "out", 1, 0);
        Check.due("said(0) of the new plan", x.said(0), 8);
        Check.duePlan(x, "at 0 give 0;", 1, 0);
        Check.due("said(0) of the new plan", x.said(0), 0);
    }

    private static void newYards() {
        PailRow x = planned(BARN, "at 0 row al bo;at 1 aim 0;at 2 give 0;");
        dueNight(x, 0, 40, 1, 1, 40);
        Check.dueYard(x, BARN, 7, 0);
        dueNight(x, 0, 0, 1, 1, 100);
        Check.dueYard(x, BARN + "back 9", -1 - BARN.length() - 6, 1);
        dueNight(x, 0, 0, 1, 1, 100);
        Check.duePlan(x, "at 0 give 0;at 1 run al;at 2 stop;at 3 row bo al;at 4 run bo;", 5, 0);
        dueNight(x, 0, 0, 0, 0, 100);
        Check.duePlan(x, "at 0 aim 0;at 0 row bo al;at 1 stop;", 3, 0);
        Check.due("night(0, 0)", x.night(0, 0), Check.men(x, 1, 0).row(60));
        Check.duePlan(x, "at 0 row al bo;at 0 stop;at 1 aim 2;at 2 run al;", 4, 0);
        dueNight(x, 0, 0, 1, 1, 100);
        Check.due("night(2, 0)", x.night(2, 0), 15);
    }

    private static void wholeImages() {
        String first = "man al 9 1 1;man bo 9 1 1;man cy 9 1 1;way 99;pails 2 20;well 30 70;spill 90;back 99;throw 9;"
                + "cells 939;cells 999;burn 0 0;burn 1 1;wind west;";
        String second = "man dy 1 9 9;way 10;pails 30 1;well 1 9999;spill 0;back 1;throw 1;cells 5;wind east;";
        PailRow x = planned(first, "at 1 row al bo cy;at 20 aim 3;at 25 run bo;at 50 give 1;");
        Check.dueSentence(x, "not (lost>9 and thrown=0) or water<40", 5, 0);
        int before = digest(x);
        x.image(0);
        Check.dueYard(x, second, 9, 0);
        Check.duePlan(x, "at 0 run dy;at 1 aim 100;at 1 stop;at 2 run dy;", 4, 0);
        Check.dueSentence(x, "out", 1, 0);
        int behind = digest(x);
        x.image(1);
        x.restore(0);
        Check.due("all as kept", digest(x), before);
        Check.due("a NAME is told twice", Check.tape(x, "at 0 run dy;").plan(), -10);
        x.restore(1);
        Check.due("all as kept", digest(x), behind);
        x.restore(0);
        Check.due("all as kept", digest(x), before);
        Check.due("alike", before == behind, false);
        // What is told behind an image does not reach into it.
        Check.duePlan(x, "at 7 run cy;", 1, 0);
        Check.dueSentence(x, "minute<3", 1, 0);
        x.restore(1);
        x.restore(0);
        Check.due("all as kept", digest(x), before);
        Check.dueYard(x, first + "way 20;", -1 - first.length(), 3);
        Check.due("all as kept", digest(x), before);
    }

    /** All that yard, plan and sentence show, as one number. */
    private static int digest(PailRow x) {
        int sum = 0;
        for (int what = 0; what <= 6; what++) {
            sum = sum * 31 + x.count(what);
        }
        for (int m = 0; m < x.count(0); m++) {
            sum = ((sum * 31 + x.man(m, 0)) * 31 + x.man(m, 1)) * 31 + x.man(m, 2);
        }
        for (int m = 0; m < 60; m++) {
            for (int what = 0; what < 4; what++) {
                sum = sum * 31 + x.night(m, what);
            }
            sum = sum * 31 + x.said(m);
        }
        sum = sum * 31 + Check.men(x, 0, 1, 2).row(900);
        for (int what = 0; what <= 5; what++) {
            sum = sum * 31 + x.rowBy(what);
        }
        sum = sum * 31 + Check.men(x, 0).running(900);
        sum = sum * 31 + x.fire(5, 3, 2, 1);
        return sum * 31 + x.said(-1);
    }

    private static void images() {
        PailRow x = planned(BARN, "at 0 row al bo;");
        Check.dueSentence(x, "burns=1", 1, 0);
        Check.due("image(2)", x.image(2), false);
        Check.due("image(-1)", x.image(-1), false);
        Check.due("restore(0) ahead of any", x.restore(0), false);
        Check.due("image(1)", x.image(1), true);
        Check.due("restore(0) of another", x.restore(0), false);
        Check.due("restore(2)", x.restore(2), false);
        Check.due("restore(-1)", x.restore(-1), false);
        Check.men(x, 0, 1).row(60);
        Check.dueYard(x, "man cy 1 1 1;man dy 1 1 1;man ey 1 1 1;way 40;cells 12;", 5, 0);
        Check.due("image(0)", x.image(0), true);
        Check.due("fault", Check.tape(x, "out out").sentence(), -5);
        Check.men(x, 0, 1, 2, 3);
        Check.due("restore(1)", x.restore(1), true);
        Check.due("the tape stays", x.count(5), 4);
        Check.due("the fault stays", x.fault(), 1);
        Check.due("rowBy stays", x.rowBy(4), 4);
        Check.due("count(0)", x.count(0), 2);
        Check.due("count(4)", x.count(4), 1);
        Check.due("count(6)", x.count(6), 20);
        Check.due("cell(0, 0, 1)", x.cell(0, 0, 1), 1);
        Check.due("night(0, 0)", x.night(0, 0), 40);
        Check.due("said(-1)", x.said(-1), 1);
        Check.due("man al is known", Check.tape(x, "at 0 run al;").plan(), 1);
        Check.due("night(0, 0)", x.night(0, 0), 15);
        Check.due("restore(1)", x.restore(1), true);
        Check.due("night(0, 0)", x.night(0, 0), 40);
        Check.due("restore(0)", x.restore(0), true);
        Check.due("count(0)", x.count(0), 3);
        Check.due("count(4)", x.count(4), 0);
        Check.due("said(-1)", x.said(-1), PailRow.NONE);
        Check.due("cell(0, 0, 1)", x.cell(0, 0, 1), 0);
        Check.due("image(1) anew", x.image(1), true);
        Check.due("restore(1)", x.restore(1), true);
        Check.due("count(0)", x.count(0), 3);
    }

    private static void counting() {
        PailRow x = planned(BARN + "cells 8;", "at 0 row al bo;at 5 stop;");
        x.feed(0, 0, 0, 0, 0);
        int[] due = {2, 1, 2, 3, 2, 20, 20, PailRow.NONE};
        for (int what = 0; what < due.length; what++) {
            Check.due("count(" + what + ")", x.count(what), due[what]);
        }
        Check.due("count(-1)", x.count(-1), PailRow.NONE);
    }
}
