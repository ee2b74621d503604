/** Promises 29 to 34 at their edges: plans, nights, sentences, images. */
public final class NightEdgesTest {
    private static final String TWO = "man al 2 3 5;man bo 1 2 9;cells 901;cells 234;burn 0 0;";
    /** Men who differ in all, so that each thing told shows in the night. */
    private static final String UNLIKE = "man al 1 9 1;man bo 9 1 1;man cy 4 4 1;man dy 7 2 1;";
    private static final String[] TOLD = {"row", "run", "stop", "aim", "give", "man", "way", "pails", "well", "spill",
        "back", "throw", "cells", "burn", "wind", "north", "east", "south", "west", "at", "or", "and", "not", "out",
        "minute", "thrown", "lost", "burns", "water"};

    public static void main(String[] args) {
        planMinutes();
        planRows();
        planRuns();
        planDoings();
        planColumns();
        planTwenty();
        planLengths();
        planEnds();
        planFaultLeavesAll();
        nightAsTold();
        nightTicks();
        nightBegins();
        nightGoesOn();
        nightBeginsAnew();
        nightOfAnother();
        nightAims();
        nightGivesUp();
        nightWithoutWater();
        sentenceEnds();
        sentenceTwenty();
        sentenceEight();
        sentenceNumbers();
        sentenceLengths();
        sentenceFaultLeavesAll();
        saidAsTold();
        saidSigns();
        saidOf();
        saidFollows();
        images();
        imagesKeepAll();
        imagesApart();
        restoreLeaves();
        Check.end();
    }

    private static PailRow planned(String yard, String plan) {
        PailRow x = Check.yard(yard);
        int things = Check.tape(x, plan).plan();
        if (things < 0) {
            Check.due("plan " + plan, things, 0);
        }
        return x;
    }

    // Plans.

    private static void planMinutes() {
        Check.promise(29);
        PailRow x = Check.yard(TWO);
        Check.duePlan(x, "at 0 stop;", 1, 0);
        Check.duePlan(x, "at 59 stop;", 1, 0);
        Check.duePlan(x, "at 60 stop;", -4, 2);
        Check.duePlan(x, "at 99999999 stop;", -4, 2);
        Check.duePlan(x, "at 65536 stop;", -4, 2);
        Check.duePlan(x, "at 256 stop;", -4, 2);
        Check.duePlan(x, "at -1 stop;", -4, 1);
        Check.duePlan(x, "at 00000059 stop;", 1, 0);
        Check.duePlan(x, "at 000000059 stop;", -4, 1);
        Check.duePlan(x, "at stop;", -4, 1);
        Check.duePlan(x, "at al stop;", -4, 1);
        Check.duePlan(x, "at 7 stop;at 7 stop;", 2, 0);
        Check.duePlan(x, "at 7 stop;at 6 stop;", -14, 2);
        Check.duePlan(x, "at 7 stop;at 0 stop;", -14, 2);
        Check.duePlan(x, "at 7 stop;at 8 stop;at 7 stop;", -24, 2);
        Check.duePlan(x, "at 0 stop;at 59 stop;at 59 stop;", 3, 0);
        Check.duePlan(x, "at 59 stop;at 58 stop;", -15, 2);
        // The plan ahead of a new one does not count.
        Check.duePlan(x, "at 59 stop;", 1, 0);
        Check.duePlan(x, "at 0 stop;", 1, 0);
    }

    private static void planRows() {
        Check.promise(29);
        PailRow x = Check.yard(TWO);
        Check.duePlan(x, "at 5 row al bo;", 1, 0);
        Check.duePlan(x, "at 5 row bo al;", 1, 0);
        Check.duePlan(x, "at 5 row;", -9, 1);
        Check.duePlan(x, "at 5 row al;", -12, 1);
        Check.duePlan(x, "at 5 row al al;", -13, 3);
        Check.duePlan(x, "at 5 row al bo al;", -16, 3);
        Check.duePlan(x, "at 5 row al bo bo;", -16, 3);
        Check.duePlan(x, "at 5 row cy al;", -10, 3);
        Check.duePlan(x, "at 5 row al cy;", -13, 3);
        Check.duePlan(x, "at 5 row al b;", -13, 3);
        Check.duePlan(x, "at 5 row al boo;", -13, 3);
        Check.duePlan(x, "at 5 row al bo 5;", -16, 1);
        Check.duePlan(x, "at 5 row al bo", -15, 1);
        Check.duePlan(x, "at 5 row al albobobo;", -13, 1);
        PailRow twelve = Check.yard(Check.alike(12, 1));
        StringBuilder names = new StringBuilder();
        for (int m = 0; m < 12; m++) {
            names.append(" m").append((char) ('a' + m));
        }
        Check.duePlan(twelve, "at 5 row" + names + ";", 1, 0);
        Check.duePlan(twelve, "at 5 row" + names.substring(3) + ";", 1, 0);
        Check.duePlan(twelve, "at 5 row" + names + " ma;", -1 - 8 - names.length() - 1, 3);
        Check.duePlan(twelve, "at 5 row" + names + " ml;", -1 - 8 - names.length() - 1, 3);
        Check.duePlan(twelve, "at 5 row" + names + " mm;", -1 - 8 - names.length() - 1, 3);
        Check.duePlan(new PailRow(), "at 5 row al bo;", -10, 3);
    }

    private static void planRuns() {
        Check.promise(29);
        PailRow x = Check.yard(TWO);
        Check.duePlan(x, "at 5 run al;", 1, 0);
        Check.duePlan(x, "at 5 run bo al;", 1, 0);
        Check.duePlan(x, "at 5 run;", -9, 1);
        Check.duePlan(x, "at 5 run al al;", -13, 3);
        Check.duePlan(x, "at 5 run cy;", -10, 3);
        Check.duePlan(x, "at 5 run 0;", -10, 1);
        Check.duePlan(x, "at 5 run al", -12, 1);
        PailRow twelve = Check.yard(Check.alike(12, 1));
        StringBuilder names = new StringBuilder();
        for (int m = 11; m >= 0; m--) {
            names.append(" m").append((char) ('a' + m));
        }
        Check.duePlan(twelve, "at 5 run" + names + ";", 1, 0);
        Check.duePlan(twelve, "at 5 run" + names + " ma;", -1 - 8 - names.length() - 1, 3);
        Check.duePlan(new PailRow(), "at 5 run al;", -10, 3);
    }

    private static void planDoings() {
        Check.promise(29);
        PailRow x = Check.yard(TWO);
        for (int i = 0; i < TOLD.length; i++) {
            // The first five are something to do; what they need is missing then.
            int at = i < 5 ? 5 + TOLD[i].length() : 5;
            boolean whole = TOLD[i].equals("stop");
            Check.duePlan(x, "at 5 " + TOLD[i] + ";", whole ? 1 : -1 - at, whole ? 0 : 1);
            if (!TOLD[i].equals("at")) {
                Check.duePlan(x, TOLD[i] + " 5 stop;", -1, 1);
            }
            // No MAN can bear that name.
            Check.duePlan(x, "at 5 row al bo " + TOLD[i], -16, 1);
        }
        Check.duePlan(x, "at 5 al;", -6, 1);
        Check.duePlan(x, "at 5;", -5, 1);
        Check.duePlan(x, "at 5 stop stop;", -11, 1);
        Check.duePlan(x, "at 5 stop al;", -11, 1);
        Check.duePlan(x, "at 5 stop;;", -11, 1);
        Check.duePlan(x, ";", -1, 1);
        Check.duePlan(x, "5", -1, 1);
        Check.duePlan(x, "at 5 aim 1 1;", -12, 1);
        Check.duePlan(x, "at 5 aim al;", -10, 1);
        Check.duePlan(x, "at 5 aim;", -9, 1);
        Check.duePlan(x, "at 5 aim 00000111;", 1, 0);
        Check.duePlan(x, "at 5 aim 000000111;", -10, 1);
        Check.duePlan(x, "at 5 aim 99999999;", -10, 2);
        Check.duePlan(x, "at 5 give al;", -11, 1);
    }

    private static void planColumns() {
        Check.promise(29);
        for (int columns = 1; columns <= 8; columns++) {
            PailRow x = Check.yard("cells " + "99999999".substring(0, columns) + ";");
            Check.duePlan(x, "at 5 give 0;", 1, 0);
            Check.duePlan(x, "at 5 give " + (columns - 1) + ";", 1, 0);
            Check.duePlan(x, "at 5 give " + columns + ";", -11, 2);
            Check.duePlan(x, "at 5 give 99999999;", -11, 2);
        }
        Check.duePlan(new PailRow(), "at 5 give 0;", -11, 2);
        Check.duePlan(Check.yard("cells 9;cells 9;cells 9;"), "at 5 give 1;", -11, 2);
    }

    private static void planTwenty() {
        Check.promise(29);
        PailRow x = Check.yard(TWO);
        String nineteen = "at 1 stop;".repeat(19);
        String twenty = "at 1 stop;".repeat(20);
        Check.duePlan(x, nineteen, 19, 0);
        Check.due("count(4)", x.count(4), 19);
        Check.duePlan(x, twenty, 20, 0);
        Check.due("count(4)", x.count(4), 20);
        Check.duePlan(x, twenty + "at 1 stop;", -201, 4);
        Check.duePlan(x, twenty + "at", -201, 4);
        Check.duePlan(x, twenty + " at 0", -202, 4);
        Check.duePlan(x, twenty + "atx", -201, 1);
        Check.duePlan(x, twenty + "stop;", -201, 1);
        Check.duePlan(x, nineteen + "at 0 stop;at 1 stop;", -1 - 193, 2);
        Check.due("count(4) stays", x.count(4), 20);
        Check.duePlan(x, "", 0, 0);
        Check.due("count(4)", x.count(4), 0);
    }

    private static void planLengths() {
        Check.promise(29);
        PailRow x = Check.yard(TWO);
        Check.duePlan(x, Check.padded("at 1 stop;", 400), 1, 0);
        Check.duePlan(x, Check.padded("at 1 stop;", 401), -401, 1);
        Check.duePlan(x, Check.padded("at 1 stop;", 740), -401, 1);
        Check.duePlan(x, Check.padded("", 400), 0, 0);
        Check.duePlan(x, Check.padded("", 401), -401, 1);
        Check.duePlan(x, Check.padded("at 1 stop", 399) + ";", 1, 0);
        Check.duePlan(x, Check.padded("at 1 stop", 400) + ";", -401, 1);
        Check.duePlan(x, Check.padded("at 60", 740), -4, 2);
        Check.duePlan(x, Check.padded("at", 399) + "59 stop;", -401, 1);
        Check.duePlan(x, Check.padded("at", 399) + "60 stop;", -400, 2);
        Check.duePlan(x, Check.padded("at", 400) + "60 stop;", -401, 1);
        Check.duePlan(x, Check.padded("at 1 run", 399) + "alx;", -400, 3);
        Check.duePlan(x, Check.padded("at 1 run", 399) + "al;", -401, 1);
        Check.duePlan(x, Check.padded("at 1 run", 400) + "alx;", -401, 1);
        Check.duePlan(x, Check.padded("at 1 stop;".repeat(20), 399) + "at", -400, 4);
        Check.duePlan(x, Check.padded("at 1 stop;".repeat(20), 400) + "at", -401, 1);
        // The longest plan of twenty fits.
        Check.duePlan(Check.yard(TWO), "at 00000001 stop ; ".repeat(20), 20, 0);
    }

    private static void planEnds() {
        Check.promise(29);
        PailRow x = Check.yard(TWO);
        String whole = "at 0 row al bo;at 1 run bo;at 2 stop;at 3 aim 112;at 4 give 2;";
        int things = 0;
        for (int length = 0; length <= whole.length(); length++) {
            String text = whole.substring(0, length);
            if (text.isEmpty() || text.endsWith(";")) {
                Check.duePlan(x, text, things, 0);
                Check.due("count(4)", x.count(4), things);
                things++;
            } else if (text.endsWith(" ")) {
                Check.duePlan(x, text, -1 - length, 1);
            }
        }
        Check.due("things", things, 6);
    }

    private static void planFaultLeavesAll() {
        PailRow x = planned(TWO, "at 3 row al bo;at 9 stop;");
        Check.promise(29);
        int thrown = x.night(4, 0);
        int water = x.night(59, 3);
        Check.due("something is thrown", thrown > 0, true);
        for (String faulty : new String[] {"?", "at 60 stop;", "at 0 run bo;at 1 run cy;", "at 0 give 0;at 0 give 9;",
            Check.padded("at 0 run al;", 401), "at 0 stop;".repeat(20) + "at"}) {
            Check.due("plan() of " + faulty.trim(), Check.tape(x, faulty).plan() < 0, true);
            Check.due("count(4) stays", x.count(4), 2);
            Check.due("night(4, 0) stays", x.night(4, 0), thrown);
            Check.due("night(59, 3) stays", x.night(59, 3), water);
        }
    }

    // Nights.

    private static void nightAsTold() {
        Check.promise(30);
        PailRow[] nights = {new PailRow(), Check.yard(TWO), planned(TWO, "at 0 row al bo;at 59 stop;")};
        for (PailRow x : nights) {
            for (int what = 0; what <= 3; what++) {
                int asked = what;
                Check.dueRange("night(.., " + what + ")", 0, 59, PailRow.NONE, m -> x.night(m, asked));
            }
            Check.dueRange("night(0, ..)", 0, 3, PailRow.NONE, what -> x.night(0, what));
            Check.dueRange("night(59, ..)", 0, 3, PailRow.NONE, what -> x.night(59, what));
        }
    }

    private static void dueThrown(PailRow x, int first, int... thrown) {
        for (int i = 0; i < thrown.length; i++) {
            Check.due("night(" + (first + i) + ", 0)", x.night(first + i, 0), thrown[i]);
        }
    }

    /** 60 TICKS: what is thrown in the 60th is of that minute, in the 61st of the next. */
    private static void nightTicks() {
        Check.promise(30);
        String run = "man al 1 2 1;way 99;pails 1 20;";
        dueThrown(planned(run + "well 9 20;", "at 0 run al;"), 0, 10, 0, 0);
        dueThrown(planned(run + "well 10 20;", "at 0 run al;"), 0, 0, 10, 0);
        dueThrown(planned(run + "well 9 20;", "at 57 run al;"), 56, 0, 10, 0, 0);
        dueThrown(planned(run + "well 9 20;", "at 59 run al;"), 58, 0, 10);
        dueThrown(planned(run + "well 10 20;", "at 59 run al;"), 58, 0, 0);
        String row = "man al 1 1 9;man bo 1 1 9;way 99;pails 1 20;well 30 20;throw ";
        dueThrown(planned(row + "2;", "at 0 row al bo;"), 0, 20, 0, 0);
        dueThrown(planned(row + "3;", "at 0 row al bo;"), 0, 0, 20, 0);
        dueThrown(planned(row + "3;", "at 58 row al bo;"), 57, 0, 0, 20);
        dueThrown(planned(row + "2;", "at 59 row al bo;"), 58, 0, 20);
        dueThrown(planned(row + "3;", "at 59 row al bo;"), 58, 0, 0);
    }

    /** At the beginning of minute M, in order; the last one told of a minute counts. */
    private static void nightBegins() {
        Check.promise(30);
        String yard = "man al 1 1 99;man bo 1 1 99;way 10;pails 9 9;well 1 9999;throw 1;";
        PailRow single = Check.yard(yard);
        int row = Check.men(single, 0, 1).row(60);
        int run = Check.men(single, 0, 1).running(60);
        Check.due("they throw", row > run && run > 0, true);
        dueThrown(planned(yard, "at 0 row al bo;"), 0, row);
        dueThrown(planned(yard, "at 1 row al bo;"), 0, 0, row);
        dueThrown(planned(yard, "at 59 row al bo;"), 57, 0, 0, row);
        dueThrown(planned(yard, "at 0 row al bo;at 1 stop;"), 0, row, 0, 0);
        dueThrown(planned(yard, "at 0 row al bo;at 0 stop;"), 0, 0, 0);
        dueThrown(planned(yard, "at 0 stop;at 0 row al bo;at 1 stop;"), 0, row, 0);
        dueThrown(planned(yard, "at 0 row al bo;at 0 run al bo;at 1 stop;"), 0, run, 0);
        dueThrown(planned(yard, "at 0 run al bo;at 0 row al bo;at 1 stop;"), 0, row, 0);
        dueThrown(planned(yard, "at 58 row al bo;at 59 stop;"), 57, 0, row, 0);
        dueThrown(planned(yard, ""), 0, new int[60]);
        // What never was told to stop goes on to the end.
        Check.due("night(59, 0)", planned(yard, "at 0 row al bo;").night(59, 0) > 0, true);
    }

    /** A row or run that goes on goes on as it is, whatever else is told. */
    private static void nightGoesOn() {
        Check.promise(30);
        String yard = "man al 3 2 1;man bo 2 3 1;way 25;pails 3 7;well 7 500;throw 4;spill 20;cells 99;burn 0 0;";
        PailRow single = Check.yard(yard);
        String[] plans = {"at 0 row al bo;", "at 0 row al bo;at 3 aim 2;at 5 give 1;at 9 aim 0;"};
        for (String plan : plans) {
            PailRow x = planned(yard, plan);
            int before = 0;
            for (int m = 0; m < 60; m++) {
                int thrown = Check.men(single, 0, 1).row(60 * m + 60);
                Check.due("night(" + m + ", 0) of " + plan, x.night(m, 0), thrown - before);
                Check.due("night(" + m + ", 3) of " + plan, x.night(m, 3), 500 - single.rowBy(2));
                before = thrown;
            }
        }
        PailRow run = planned(yard, "at 0 run bo al;at 4 aim 3;");
        int before = 0;
        for (int m = 0; m < 60; m++) {
            int thrown = Check.men(single, 1, 0).running(60 * m + 60);
            Check.due("night(" + m + ", 0) of a run", run.night(m, 0), thrown - before);
            before = thrown;
        }
        // Drawings begin in the TICKS 1, 8, 26, 41 and 51; what is drawn is gone from then on.
        Check.due("night(0, 3) of a run", run.night(0, 3), 500 - 7 * 5);
        Check.due("night(59, 3) of a run", run.night(59, 3), 0);
    }

    /** All pails at the well, what is in the well as it is, nobody tired. */
    private static void nightBeginsAnew() {
        Check.promise(30);
        // One pail of 20 that takes 61 TICKS in a row: it never comes, if the row begins anew each minute.
        String slow = "man al 1 1 9;man bo 1 1 9;way 99;pails 1 20;well 30 100;throw 3;";
        PailRow anew = planned(slow, "at 0 row al bo;at 1 row al bo;at 2 row al bo;at 3 row bo al;at 4 row al bo;"
                + "at 5 row al bo;at 6 stop;");
        int[] water = {80, 60, 40, 20, 0, 0, 0};
        for (int m = 0; m < water.length; m++) {
            Check.due("night(" + m + ", 0)", anew.night(m, 0), 0);
            Check.due("night(" + m + ", 3)", anew.night(m, 3), water[m]);
        }
        String weak = "man al 1 1 1;man bo 1 1 1;way 10;pails 1 10;well 1 9999;back 3;throw 1;";
        PailRow single = Check.yard(weak);
        int first = Check.men(single, 0, 1).row(60);
        int three = Check.men(single, 0, 1).row(180);
        int fourth = Check.men(single, 0, 1).row(240) - three;
        Check.due("the fourth minute is slower", fourth < first, true);
        dueThrown(planned(weak, "at 0 row al bo;"), 3, fourth);
        dueThrown(planned(weak, "at 0 row al bo;at 3 row al bo;"), 3, first);
        dueThrown(planned(weak, "at 0 row al bo;at 3 stop;at 4 row al bo;"), 3, 0, first);
        // A run that is told again begins anew, too.
        String far = "man al 1 2 1;way 99;pails 1 20;well 10 9999;";
        dueThrown(planned(far, "at 0 run al;"), 0, 0, 10);
        dueThrown(planned(far, "at 0 run al;at 1 run al;at 2 run al;"), 0, 0, 0, 0, 10);
    }

    /** Another PLAN, longer or shorter, with other MEN at the same places. */
    private static void nightOfAnother() {
        Check.promise(30);
        StringBuilder yard = new StringBuilder();
        StringBuilder names = new StringBuilder();
        StringBuilder turned = new StringBuilder();
        for (int m = 0; m < 12; m++) {
            yard.append("man m").append((char) ('a' + m)).append(' ').append(1 + m % 9).append(' ').append(9 - m % 9);
            yard.append(" 9;");
            names.append(" m").append((char) ('a' + m));
            turned.insert(0, " m" + (char) ('a' + m));
        }
        yard.append("pails 30 3;cells 999;cells 999;burn 0 0;");
        String[] plans = {"at 0 run" + names + ";at 1 row" + turned + ";at 2 run" + turned + ";at 3 row" + names + ";",
            "at 0 stop;at 1 row mb ma;at 1 stop;at 2 row mc md;", "at 0 aim 112;at 0 run ma mb;at 9 give 2;at 10 stop;",
            "at 0 row" + names + ";", "", "at 0 give 0;at 0 give 1;at 0 row ma mb mc;at 0 stop;",
            "at 0 row ma mb;at 0 row mb ma;at 0 aim 0;at 7 stop;at 8 stop;", "at 2 run mi;"};
        PailRow x = Check.yard(yard.toString());
        for (int i = 0; i < plans.length * plans.length; i++) {
            String plan = plans[i % 2 == 0 ? i / 2 % plans.length : i * 5 % plans.length];
            int things = Check.tape(x, plan).plan();
            PailRow fresh = planned(yard.toString(), plan);
            Check.due("things", things, fresh.count(4));
            for (int m = 0; m < 60; m++) {
                for (int what = 0; what <= 3; what++) {
                    Check.due("night(" + m + ", " + what + ") of " + plan, x.night(m, what), fresh.night(m, what));
                }
            }
        }
        // Of twelve, told as the first thing or as a later one, all stand as told.
        PailRow late = planned(yard.toString(), "at 0 stop;at 0 stop;at 0 row" + turned + ";");
        Check.due("night(0, 0)", late.night(0, 0), Check.men(late, 11, 10, 9, 8, 7, 6, 5, 4, 3, 2, 1, 0).row(60));
        PailRow two = planned(yard.toString(), "at 0 stop;at 0 row" + names + ";at 1 run" + turned + ";");
        Check.due("night(0, 0)", two.night(0, 0), Check.men(two, Check.rising(12)).row(60));
        Check.due("night(1, 0)", two.night(1, 0), Check.men(two, 11, 10, 9, 8, 7, 6, 5, 4, 3, 2, 1, 0).running(60));
    }

    private static void nightAims() {
        Check.promise(30);
        // 40 litres in the first minute, 50 in the second.
        String yard = "man al 1 9 99;way 10;pails 1 20;well 9 9999;cells 5090;burn 0 0;burn 2 0;";
        PailRow x = planned(yard, "at 0 run al;");
        int thrown = x.night(0, 0);
        Check.due("night(0, 0)", thrown, 40);
        Check.due("night(1, 0)", x.night(1, 0), 50);
        PailRow most = planned(yard, "at 0 run al;at 0 aim 1;");
        PailRow least = planned(yard, "at 0 run al;at 0 aim 2;");
        PailRow nowhere = planned(yard, "at 0 run al;at 0 aim 0;");
        PailRow second = planned(yard, "at 0 run al;at 0 aim 101;at 1 aim 100;");
        for (int m = 0; m < 60; m++) {
            for (int what = 0; what <= 3; what++) {
                Check.due("AIM 1 at first: night(" + m + ", " + what + ")", x.night(m, what), most.night(m, what));
            }
        }
        Check.due("AIM 2: 5 against 40 litres, then 4", least.night(0, 2), 2);
        Check.due("AIM 2: 90 litres put 4 out", least.night(1, 2), 1);
        Check.due("AIM 0: all is lost", nowhere.night(59, 1), 14);
        Check.due("AIM 101, then 100", second.night(0, 2), 2);
        Check.due("AIM 100 from minute 1 on", second.night(1, 2), 1);
        PailRow late = planned(yard, "at 0 run al;at 59 aim 0;");
        Check.due("an AIM of minute 59 changes nothing ahead of it", late.night(58, 1), x.night(58, 1));
    }

    private static void nightGivesUp() {
        Check.promise(30);
        String yard = "cells 99;cells 90;burn 0 0;burn 0 1;";
        PailRow x = planned(yard, "at 1 give 0;");
        int[][] due = {{2, 3}, {3, 1}, {4, 1}};
        for (int m = 0; m < due.length; m++) {
            Check.due("LOST behind minute " + m, x.night(m, 1), due[m][0]);
            Check.due("CELLS that burn behind minute " + m, x.night(m, 2), due[m][1]);
        }
        Check.due("what is taken away is not LOST", x.night(59, 1), 2 + 9);
        PailRow first = planned(yard, "at 0 give 0;");
        Check.due("LOST", first.night(59, 1), 0);
        Check.due("OUT", first.night(0, 2), 0);
        PailRow last = planned(yard, "at 59 give 0;");
        Check.due("LOST", last.night(59, 1), 27);
        PailRow both = planned(yard, "at 0 give 1;at 0 give 1;");
        Check.due("LOST", both.night(59, 1), 18);
        Check.due("the YARD is as told", both.cell(1, 0, 0), 9);
    }

    private static void nightWithoutWater() {
        Check.promise(30);
        PailRow x = planned("man al 1 1 1;man bo 1 1 1;well 1 0;cells 9;burn 0 0;", "at 0 row al bo;at 9 run al bo;");
        for (int m = 0; m < 60; m++) {
            Check.due("night(" + m + ", 0)", x.night(m, 0), 0);
            Check.due("night(" + m + ", 1)", x.night(m, 1), Math.min(9, m + 1));
            Check.due("night(" + m + ", 2)", x.night(m, 2), m < 8 ? 1 : 0);
            Check.due("night(" + m + ", 3)", x.night(m, 3), 0);
        }
        PailRow one = planned("man al 1 1 1;man bo 1 1 1;well 1 1;", "at 5 row al bo;");
        Check.due("night(4, 3)", one.night(4, 3), 1);
        Check.due("night(5, 3)", one.night(5, 3), 0);
        Check.due("night(5, 0)", one.night(5, 0), 1);
    }

    // Sentences.

    private static void sentenceEnds() {
        Check.promise(31);
        PailRow x = new PailRow();
        Check.dueSentence(x, "", -1, 1);
        Check.dueSentence(x, "  ", -3, 1);
        String[] whole = {"out", "not out", "(out)", "lost>5", "out and out", "out or out", "(out or not(burns=0))"};
        int[] ones = {1, 2, 2, 1, 2, 2, 5};
        for (int i = 0; i < whole.length; i++) {
            Check.dueSentence(x, whole[i], ones[i], 0);
            Check.dueSentence(x, whole[i] + ")", -1 - whole[i].length(), 1);
            Check.dueSentence(x, whole[i] + ";", -1 - whole[i].length(), 1);
            Check.dueSentence(x, whole[i] + " out", -2 - whole[i].length(), 1);
            Check.dueSentence(x, whole[i] + " or", -4 - whole[i].length(), 1);
            Check.dueSentence(x, whole[i] + " and ", -6 - whole[i].length(), 1);
            Check.dueSentence(x, "(" + whole[i], -2 - whole[i].length(), 1);
            Check.dueSentence(x, "not", -4, 1);
            Check.dueSentence(x, whole[i] + " not", -2 - whole[i].length(), 1);
        }
        for (String word : TOLD) {
            boolean begins = word.equals("not") || word.equals("out") || word.equals("minute") || word.equals("thrown")
                    || word.equals("lost") || word.equals("burns") || word.equals("water");
            Check.dueSentence(x, word + " ?", begins ? -2 - word.length() : -1, 1);
        }
        Check.dueSentence(x, "()", -2, 1);
        Check.dueSentence(x, "lost lost", -6, 1);
        Check.dueSentence(x, "lost<>5", -6, 1);
        Check.dueSentence(x, "lost(5)", -5, 1);
        Check.dueSentence(x, "5>lost", -1, 1);
        Check.dueSentence(x, "lost>lost", -6, 1);
    }

    private static void sentenceTwenty() {
        Check.promise(31);
        PailRow x = new PailRow();
        String[] joints = {" or ", " and "};
        for (String joint : joints) {
            String nineteen = "out" + (joint + "out").repeat(18);
            Check.dueSentence(x, nineteen, 19, 0);
            Check.dueSentence(x, nineteen + joint + "out", 20, 0);
            int at = nineteen.length() + 2 * joint.length() + 3;
            Check.dueSentence(x, nineteen + joint + "out" + joint + "out", -1 - at, 4);
            Check.dueSentence(x, nineteen + joint + "out" + joint + "(", -1 - at, 4);
            Check.dueSentence(x, nineteen + joint + "out" + joint + "lost", -1 - at, 4);
            Check.dueSentence(x, nineteen + joint + "out" + joint + "not", -1 - at, 4);
            // Of one TOKEN the least: what can't come there is fault 1.
            Check.dueSentence(x, nineteen + joint + "out" + joint + ")", -1 - at, 1);
            Check.dueSentence(x, nineteen + joint + "out" + joint + "al", -1 - at, 1);
            Check.dueSentence(x, nineteen + joint + "out" + joint, -1 - at, 1);
            // Each not, each bracket and each other one counts.
            Check.dueSentence(x, nineteen + joint + "not out", -1 - (nineteen.length() + joint.length() + 4), 4);
            Check.dueSentence(x, nineteen + joint + "(out)", -1 - (nineteen.length() + joint.length() + 1), 4);
        }
        String six = "(not(not not lost=5))";
        String eighteen = six + "or" + six + "and" + six;
        Check.dueSentence(x, six, 6, 0);
        Check.dueSentence(x, eighteen, 18, 0);
        Check.dueSentence(x, eighteen + "or not out", 20, 0);
        Check.dueSentence(x, eighteen + "or not not out", -1 - eighteen.length() - 11, 4);
    }

    /** A chain of ONES, each within the one ahead: eight are fine, the ninth is a fault at its first TOKEN. */
    private static void sentenceEight() {
        Check.promise(31);
        PailRow x = new PailRow();
        for (int set = 0; set < 1 << 8; set++) {
            StringBuilder ahead = new StringBuilder();
            StringBuilder behind = new StringBuilder();
            int eighth = 0;
            for (int i = 0; i < 8; i++) {
                boolean bracket = (set >> i & 1) != 0;
                if (i == 7) {
                    Check.dueSentence(x, ahead + "out" + behind, 8, 0);
                    Check.dueSentence(x, ahead + "lost=5" + behind, 8, 0);
                }
                ahead.append(bracket ? "(" : "not ");
                behind.insert(0, bracket ? ")" : "");
                eighth = ahead.length();
            }
            Check.dueSentence(x, ahead + "out" + behind, -1 - eighth, 4);
            Check.dueSentence(x, ahead + "al" + behind, -1 - eighth, 1);
        }
        // Those beside one another are not within: eight deep again and again.
        String deep = "(((((((out)))))))";
        Check.dueSentence(x, deep, 8, 0);
        Check.dueSentence(x, deep + "or" + deep, 16, 0);
        Check.dueSentence(x, "(((((((out or out and out)))))))", 10, 0);
        Check.dueSentence(x, "(((((((out or(out))))))))", -15, 4);
        Check.dueSentence(x, "(((((((out)or out)or out))))) or not not not not not out", 16, 0);
        Check.dueSentence(x, deep + "and " + "not ".repeat(8) + "out", -1 - 21 - 32, 4);
    }

    private static void sentenceNumbers() {
        Check.promise(31);
        PailRow x = new PailRow();
        for (String measure : new String[] {"minute", "thrown", "lost", "burns", "water"}) {
            for (String sign : new String[] {"<", "=", ">"}) {
                Check.dueSentence(x, measure + sign + "0", 1, 0);
                Check.dueSentence(x, measure + sign + "99999999", 1, 0);
                Check.dueSentence(x, measure + sign + "00000000", 1, 0);
                Check.dueSentence(x, measure + sign + "000000000", -2 - measure.length(), 1);
                Check.dueSentence(x, measure + sign + "100000000", -2 - measure.length(), 1);
                Check.dueSentence(x, measure + sign, -2 - measure.length(), 1);
                Check.dueSentence(x, measure + sign + sign + "1", -2 - measure.length(), 1);
            }
            Check.dueSentence(x, measure, -1 - measure.length(), 1);
            Check.dueSentence(x, measure + "5", -1, 1);
            Check.dueSentence(x, measure + " 5", -2 - measure.length(), 1);
        }
        for (char sign : ";()!+-.".toCharArray()) {
            Check.dueSentence(x, "lost" + sign + "5", -5, 1);
        }
    }

    private static void sentenceLengths() {
        Check.promise(31);
        PailRow x = new PailRow();
        Check.dueSentence(x, Check.padded("out", 200), 1, 0);
        Check.dueSentence(x, Check.padded("out", 201), -201, 1);
        Check.dueSentence(x, Check.padded("out", 740), -201, 1);
        Check.dueSentence(x, Check.padded("", 197) + "out", 1, 0);
        Check.dueSentence(x, Check.padded("", 198) + "out", -201, 1);
        Check.dueSentence(x, Check.padded("", 199) + "out", -201, 1);
        Check.dueSentence(x, Check.padded("", 199) + "outs", -200, 1);
        Check.dueSentence(x, Check.padded("", 200) + "outs", -201, 1);
        Check.dueSentence(x, Check.padded("lost=", 199) + "5", 1, 0);
        Check.dueSentence(x, Check.padded("lost=", 199) + "55", -201, 1);
        Check.dueSentence(x, Check.padded("lost=", 199) + "000000000", -200, 1);
        Check.dueSentence(x, Check.padded("lost=", 200) + "5", -201, 1);
        Check.dueSentence(x, "out out" + " ".repeat(700), -5, 1);
        Check.dueSentence(x, Check.padded("out" + " or out".repeat(19) + " or", 199) + "(", -200, 4);
        Check.dueSentence(x, Check.padded("out" + " or out".repeat(19) + " or", 200) + "(", -201, 1);
    }

    private static void sentenceFaultLeavesAll() {
        Check.promise(31);
        PailRow x = new PailRow();
        Check.dueSentence(x, "minute<3", 1, 0);
        for (String faulty : new String[] {"", "?", "out and", "minute<5 or", "not ".repeat(8) + "out", "out)",
            Check.padded("out", 201)}) {
            Check.due("sentence() of " + faulty.trim(), Check.tape(x, faulty).sentence() < 0, true);
            Check.due("said(-1) of the one that stays", x.said(PailRow.NONE), 3);
            Check.due("said(2) of the one that stays", x.said(2), 2);
        }
        PailRow none = new PailRow();
        Check.dueSentence(none, "out or", -7, 1);
        Check.due("there is no SENTENCE still", none.said(PailRow.NONE), PailRow.NONE);
    }

    private static PailRow saying(PailRow x, String sentence) {
        int ones = Check.tape(x, sentence).sentence();
        if (ones < 1) {
            Check.due("sentence " + sentence, ones, 1);
        }
        return x;
    }

    private static void saidAsTold() {
        Check.promise(32);
        PailRow x = new PailRow();
        for (int k : new int[] {Integer.MIN_VALUE, -2, -1, 0, 59, 60, Integer.MAX_VALUE}) {
            Check.due("said(" + k + ") without a SENTENCE", x.said(k), PailRow.NONE);
        }
        saying(x, "out");
        Check.dueRange("said of all minutes", -1, 59, PailRow.NONE, x::said);
        Check.due("said(-1) of all", x.said(-1), 60);
        Check.due("said(0) of all", x.said(0), 0);
        Check.due("said(59) of all", x.said(59), 59);
        saying(x, "minute=59");
        Check.dueRange("said of the last minute", -1, 0, PailRow.NONE, x::said);
        Check.due("said(-1) of the last minute", x.said(-1), 1);
        Check.due("said(0) of the last minute", x.said(0), 59);
        saying(x, "minute=0 or minute=30 or minute=59");
        Check.dueRange("said of three", -1, 2, PailRow.NONE, x::said);
        Check.due("said(1) of three", x.said(1), 30);
        saying(x, "minute>59");
        Check.dueRange("said of none", -1, -1, PailRow.NONE, x::said);
        Check.due("said(-1) of none", x.said(-1), 0);
        Check.due("said(0) of none", x.said(0), PailRow.NONE);
    }

    private static void dueMinutes(PailRow x, String sentence, int minutes) {
        Check.due("said(-1) of " + sentence, saying(x, sentence).said(PailRow.NONE), minutes);
    }

    private static void saidSigns() {
        Check.promise(32);
        PailRow x = new PailRow();
        int[] at = {0, 1, 30, 58, 59, 60, 99999999};
        for (int n : at) {
            dueMinutes(x, "minute<" + n, Math.min(n, 60));
            dueMinutes(x, "minute=" + n, n < 60 ? 1 : 0);
            dueMinutes(x, "minute>" + n, Math.max(0, 59 - n));
        }
        dueMinutes(x, "not minute=0", 59);
        dueMinutes(x, "not not minute=0", 1);
        dueMinutes(x, "minute<5 or minute>54", 10);
        dueMinutes(x, "minute>5 and minute<54", 48);
        dueMinutes(x, "minute<5 or minute>9 and minute<12", 7);
        dueMinutes(x, "(minute<5 or minute>9) and minute<12", 7);
        dueMinutes(x, "minute>9 and minute<12 or minute<5", 7);
        // Nothing of a longer one ahead is left in a shorter one.
        for (int i = 0; i < 3; i++) {
            dueMinutes(x, "minute<5 or minute>9 or not(minute<12 and minute>7) or minute=8", 59);
            dueMinutes(x, "minute<5 and not(minute>9 or minute<12 and minute>7) and minute=8", 0);
            dueMinutes(x, "minute<5", 5);
            dueMinutes(x, "minute>5 and minute<9", 3);
            dueMinutes(x, "not minute<5", 55);
            dueMinutes(x, "not minute<9", 51);
            dueMinutes(x, "minute<5", 5);
            dueMinutes(x, "minute<9", 9);
        }
        dueMinutes(x, "minute>9 and (minute<12 or minute<15)", 5);
        dueMinutes(x, "not minute<5 and minute<9", 4);
        dueMinutes(x, "not(minute<5 and minute<9)", 55);
        dueMinutes(x, "not minute<5 or minute<9", 60);
    }

    /** THROWN in it; LOST, how many CELLS burn, litres in the well behind it; out: nothing burns. */
    private static void saidOf() {
        Check.promise(32);
        PailRow x = planned("man al 2 3 5;man bo 1 2 9;way 20;pails 3 10;well 4 100;cells 99;burn 0 0;",
                "at 3 row al bo;at 5 stop;at 7 give 1;");
        String[] measures = {"thrown", "lost", "burns", "water"};
        for (int what = 0; what < measures.length; what++) {
            for (int m = 0; m < 60; m++) {
                int measure = x.night(m, what);
                for (int n = Math.max(0, measure - 1); n <= measure + 1; n++) {
                    int[] due = new int[3];
                    for (int other = 0; other < 60; other++) {
                        due[1 + Integer.compare(x.night(other, what), n)]++;
                    }
                    if (m < 10) {
                        dueMinutes(x, measures[what] + "<" + n, due[0]);
                        dueMinutes(x, measures[what] + "=" + n, due[1]);
                        dueMinutes(x, measures[what] + ">" + n, due[2]);
                    }
                }
            }
        }
        int burning = 0;
        for (int m = 0; m < 60; m++) {
            burning += x.night(m, 2) > 0 ? 1 : 0;
        }
        Check.due("something burns, and not always", burning > 0 && burning < 60, true);
        dueMinutes(x, "out", 60 - burning);
        dueMinutes(x, "not out", burning);
        Check.due("said(0) of out: the first minute behind which nothing burns", saying(x, "out").said(0), burning);
    }

    private static void saidFollows() {
        Check.promise(32);
        PailRow x = saying(Check.yard("man al 1 1 9;cells 9;burn 0 0;"), "out");
        Check.due("said(0)", x.said(0), 8);
        Check.duePlan(x, "at 3 give 0;", 1, 0);
        Check.due("said(0) of the new PLAN", x.said(0), 3);
        Check.duePlan(x, "at 60", -4, 2);
        Check.due("said(0) of the PLAN that stays", x.said(0), 3);
        x.image(0);
        Check.dueYard(x, "cells 9;burn 0 0;", 2, 0);
        Check.due("said(-1): a new YARD has no SENTENCE", x.said(PailRow.NONE), PailRow.NONE);
        x.restore(0);
        Check.due("said(0) of what is kept", x.said(0), 3);
    }

    // Images.

    private static void images() {
        PailRow x = Check.yard(TWO);
        Check.promise(34);
        for (int k : new int[] {Integer.MIN_VALUE, -1, 0, 1, 2, Integer.MAX_VALUE}) {
            Check.due("restore(" + k + ") of nothing", x.restore(k), false);
        }
        Check.promise(33);
        Check.due("image(-1)", x.image(-1), false);
        Check.due("image(2)", x.image(2), false);
        Check.promise(34);
        Check.due("restore(0) behind refused images", x.restore(0), false);
        Check.due("restore(1) behind refused images", x.restore(1), false);
        Check.promise(33);
        Check.due("image(1)", x.image(1), true);
        Check.promise(34);
        Check.due("restore(0): nothing is kept there", x.restore(0), false);
        Check.due("restore(1)", x.restore(1), true);
        Check.due("restore(2)", x.restore(2), false);
        Check.promise(33);
        Check.dueRange("image", 0, 1, 0, k -> x.image(k) ? 1 : 0);
        Check.promise(34);
        Check.dueRange("restore", 0, 1, 0, k -> x.restore(k) ? 1 : 0);
        PailRow empty = new PailRow();
        Check.due("image(0) of a new object", empty.image(0), true);
        Check.dueYard(empty, TWO, 5, 0);
        Check.promise(34);
        Check.due("restore(0)", empty.restore(0), true);
        Check.due("count(0)", empty.count(0), 0);
        Check.due("count(3)", empty.count(3), 6);
        Check.dueNoSuch("cell(0, 0, 0)", () -> empty.cell(0, 0, 0));
    }

    private static void imagesKeepAll() {
        String full = UNLIKE + "way 45;pails 4 11;well 3 3000;spill 15;back 9;throw 5;cells 949;cells 494;burn 0 0;"
                + "burn 1 1;wind south;";
        String plan = "at 0 row al bo cy dy;at 7 row dy al;at 11 run cy bo;at 20 aim 2;at 21 give 1;at 30 row bo cy al;"
                + "at 40 run dy;at 50 stop;at 55 run al bo cy dy;";
        String sentence = "minute<20 and not minute=7 or minute>50 or lost>9 and thrown=0";
        PailRow fresh = saying(planned(full, plan), sentence);
        int due = digest(fresh);
        String[] others = {"", "man zu 9 9 9;", full.replace("man al 1 9", "man al 2 9"), UNLIKE + "cells 1;"};
        for (int k = 0; k <= 1; k++) {
            for (String other : others) {
                PailRow x = saying(planned(full, plan), sentence);
                Check.promise(33);
                Check.due("image(" + k + ")", x.image(k), true);
                Check.due("all behind an image", digest(x), due);
                Check.tape(x, other).yard();
                saying(x, "minute>20 and not minute<7 or minute=50 or lost=9 and thrown>0");
                saying(x, "minute=20 and not minute>7 or minute<50 or lost<9 and thrown<0");
                Check.tape(x, "at 0 run zu;at 1 stop;at 2 run zu;").plan();
                Check.due("another yard is unlike", digest(x) == due, false);
                Check.promise(34);
                Check.due("restore(" + k + ")", x.restore(k), true);
                Check.due("all as kept in " + k, digest(x), due);
                Check.duePlan(x, "at 0 row bo al dy cy;at 7 run dy al;at 11 row cy bo;at 30 row al cy bo;", 4, 0);
                Check.due("another plan is unlike", digest(x) == due, false);
                Check.due("restore(" + k + ") again", x.restore(k), true);
                Check.due("all as kept in " + k, digest(x), due);
                Check.due("NAMES are as kept: plan()", Check.tape(x, "at 0 row al bo cy dy;").plan(), 1);
                Check.due("night", x.night(0, 0), fresh.night(0, 0));
                Check.due("NAMES are as kept: no other", Check.tape(x, "at 0 run zu;").plan(), -10);
            }
        }
    }

    /** All that YARD, PLAN and SENTENCE show, as one number. */
    private static int digest(PailRow x) {
        int sum = 0;
        for (int what = 0; what <= 6; what++) {
            sum = sum * 31 + x.count(what);
        }
        for (int m = 0; m < x.count(0); m++) {
            sum = ((sum * 31 + x.man(m, 0)) * 31 + x.man(m, 1)) * 31 + x.man(m, 2);
        }
        for (int m = 0; m < 60; m++) {
            for (int what = 0; what < 4; what++) {
                sum = sum * 31 + x.night(m, what);
            }
            sum = sum * 31 + x.said(m);
        }
        sum = sum * 31 + x.said(PailRow.NONE);
        sum = sum * 31 + Check.men(x, 0, 1, 2).row(900);
        sum = sum * 31 + Check.men(x, 2, 1).running(900);
        return sum * 31 + x.fire(5, 3, 2, 1);
    }

    private static void imagesApart() {
        PailRow x = Check.yard("way 11;");
        x.image(0);
        Check.dueYard(x, "way 22;", 1, 0);
        x.image(1);
        Check.dueYard(x, "way 33;", 1, 0);
        Check.promise(34);
        Check.due("restore(2)", x.restore(2), false);
        Check.due("count(6): a refused restore leaves all", x.count(6), 33);
        x.restore(0);
        Check.due("count(6) of place 0", x.count(6), 11);
        x.restore(1);
        Check.due("count(6) of place 1", x.count(6), 22);
        Check.dueYard(x, "way 44;", 1, 0);
        Check.promise(33);
        Check.due("image(2) keeps nothing", x.image(2), false);
        x.restore(0);
        Check.due("count(6) of place 0", x.count(6), 11);
        Check.dueYard(x, "way 55;", 1, 0);
        x.image(0);
        Check.dueYard(x, "way 66;", 1, 0);
        x.restore(0);
        Check.promise(33);
        Check.due("the image behind counts", x.count(6), 55);
        x.restore(1);
        Check.due("the other place is as it was", x.count(6), 22);
    }

    /** The tape, and what other calls told last, stays. */
    private static void restoreLeaves() {
        PailRow x = Check.yard(TWO);
        x.image(0);
        Check.dueYard(x, "man cy 1 1 1;man dy 9 1 1;man ey 5 1 1;cells 9;burn 0 0;", 5, 0);
        Check.men(x, 2, 1).row(100);
        int[] rowBy = new int[6];
        for (int what = 0; what <= 5; what++) {
            rowBy[what] = x.rowBy(what);
        }
        int done = x.done(1);
        Check.men(x, 2, 1).best();
        Check.men(x, 0, 1, 2).more(2);
        Check.men(x, 3, 4).hooks(1);
        int lost = x.fire(3, 0, 1, 0);
        x.aims(2, 99);
        Check.dueSentence(x, "?", -1, 1);
        Check.men(x, 9, 8, 7);
        int[] more = {x.moreAt(0), x.moreAt(1), x.moreAt(2)};
        Check.promise(34);
        Check.due("restore(0)", x.restore(0), true);
        Check.due("the tape: count(5)", x.count(5), 3);
        Check.due("fault()", x.fault(), 1);
        for (int what = 0; what <= 5; what++) {
            Check.due("rowBy(" + what + ")", x.rowBy(what), rowBy[what]);
        }
        Check.due("done(1)", x.done(1), done);
        Check.due("bestAt(0)", x.bestAt(0), 2);
        Check.due("bestAt(1)", x.bestAt(1), 1);
        for (int p = 0; p < 3; p++) {
            Check.due("moreAt(" + p + ")", x.moreAt(p), more[p]);
        }
        Check.due("hookAt(0)", x.hookAt(0), 3);
        Check.due("fireAt(0, 0, 0)", x.fireAt(0, 0, 0), 9 - lost);
        Check.due("fireAt(1, 0, 0): of that YARD", x.fireAt(1, 0, 0), PailRow.NONE);
        Check.due("out()", x.out(), PailRow.NONE);
        Check.due("aimAt(0)", x.aimAt(0), 100);
        Check.due("aimAt(1)", x.aimAt(1), 0);
    }
}
