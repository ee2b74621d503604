/** Promises 1 to 5, and the texts of promises 29 and 31. */
public final class TextsTest {
    private static final String TWO = "man al 2 3 5;man bo 1 2 9;cells 901;cells 234;";

    public static void main(String[] args) {
        newObject();
        tape();
        yardLines();
        tokens();
        yardNumbers();
        yardTwice();
        yardTooMany();
        yardStays();
        yardBeginsAnew();
        longTexts();
        plans();
        planFaults();
        longPlans();
        sentences();
        sentenceFaults();
        Check.end();
    }

    private static void newObject() {
        PailRow x = new PailRow();
        int[] counts = {0, 0, 0, 6, 0, 0, 30, PailRow.NONE};
        for (int what = 0; what < counts.length; what++) {
            Check.due("new count(" + what + ")", x.count(what), counts[what]);
        }
        Check.due("new count(-1)", x.count(-1), PailRow.NONE);
        Check.due("new fault()", x.fault(), 0);
        Check.due("new said(-1)", x.said(-1), PailRow.NONE);
        Check.due("new night(59, 3)", x.night(59, 3), 9999);
        Check.due("NONE", PailRow.NONE, -1);
    }

    private static void tape() {
        PailRow x = new PailRow();
        for (int i = 1; i <= 37; i++) {
            Check.due("feed " + i, x.feed(i, -1, 0, 0, 0), 20 * i);
        }
        Check.due("feed 38", x.feed(1, 2, 3, 4, 5), PailRow.NONE);
        Check.due("count(5)", x.count(5), 740);
        Check.due("end(741)", x.end(741), false);
        Check.due("end(-1)", x.end(-1), false);
        Check.due("end(740)", x.end(740), true);
        Check.due("end(721)", x.end(721), true);
        Check.due("feed beyond 740", x.feed(1, 2, 3, 4, 5), PailRow.NONE);
        Check.due("count(5)", x.count(5), 721);
        Check.due("end(720)", x.end(720), true);
        Check.due("feed up to 740", x.feed(1, 2, 3, 4, 5), 740);
        Check.due("end(0)", x.end(0), true);
        Check.due("end(1)", x.end(1), false);
        // The highest byte comes first: "way 20;" is 77 61 79 20 32 30 3b.
        x.feed(0x77617920, 0x32303b00, 0, 0, 0);
        x.end(7);
        Check.due("yard()", x.yard(), 1);
        Check.due("count(6)", x.count(6), 20);
    }

    private static void yardLines() {
        PailRow x = new PailRow();
        Check.dueYard(x, "man al 2 3 5;man bo 9 9 99;way 99;pails 30 20;well 30 9999;spill 99;back 99;"
                + "throw 9;cells 01234567;cells 89012345;burn 1 0;burn 0 1;wind west;", 13, 0);
        Check.due("count(0)", x.count(0), 2);
        Check.due("count(1)", x.count(1), 8);
        Check.due("count(2)", x.count(2), 2);
        Check.due("count(3)", x.count(3), 30);
        Check.due("count(6)", x.count(6), 99);
        Check.due("man(1, 0)", x.man(1, 0), 9);
        Check.due("man(1, 1)", x.man(1, 1), 9);
        Check.due("man(1, 2)", x.man(1, 2), 99);
        Check.due("cell(0, 0, 0)", x.cell(0, 0, 0), 0);
        Check.due("cell(7, 1, 0)", x.cell(7, 1, 0), 5);
        Check.due("cell(1, 0, 1)", x.cell(1, 0, 1), 1);
        Check.due("cell(2, 0, 1)", x.cell(2, 0, 1), 0);
        Check.dueYard(x, "", 0, 0);
        Check.due("count(0)", x.count(0), 0);
        Check.due("count(3)", x.count(3), 6);
        Check.dueYard(x, "way 10;pails 1 1;well 1 0;spill 0;back 1;throw 1;wind north;", 7, 0);
        Check.dueYard(x, "wind south;", 1, 0);
        Check.dueYard(x, "wind east;", 1, 0);
    }

    private static void tokens() {
        Check.dueYard(" \n way\n20 ;\n", 1, 0);
        Check.dueYard("way20;", -1, 1);
        Check.dueYard("way 20;;", -8, 1);
        Check.dueYard("way 00000020;", 1, 0);
        Check.dueYard("way 000000020;", -5, 1);
        Check.dueYard("way 2o;", -5, 1);
        Check.dueYard("way 20.0;", -7, 1);
        Check.dueYard("way 2.0;", -5, 2);
        Check.dueYard("way\t20;", -4, 1);
        Check.dueYard("Way 20;", -1, 1);
        Check.dueYard("man abcdef 1 1 1;", 1, 0);
        Check.dueYard("man abcdefg 1 1 1;", -5, 1);
        Check.dueYard("man azz 1 1 1;man az 1 1 1;man zzzzzz 1 1 1;", 3, 0);
        Check.dueYard("man a1 1 1 1;", -5, 1);
        Check.dueYard("man al 1 1 1", -13, 1);
        Check.dueYard("man al 1 1", -11, 1);
        Check.dueYard("man al 1 1  ", -13, 1);
        Check.dueYard("man", -4, 1);
        Check.dueYard("man 5 1 1 1;", -5, 1);
        Check.dueYard("man al bo;", -8, 1);
        Check.dueYard("man al 1 1 1 1;", -14, 1);
        Check.dueYard("al 1;", -1, 1);
        Check.dueYard("5;", -1, 1);
        Check.dueYard("at 1 stop;", -1, 1);
        Check.dueYard("wind still;", -6, 1);
        Check.dueYard("wind 1;", -6, 1);
        Check.dueYard("cells ab;", -7, 1);
        Check.dueYard("cells 123456789;", -7, 1);
        Check.dueYard("cells 12;burn a 0;", -15, 1);
        Check.dueYard("cells 12;burn 0 a;", -17, 1);
        Check.dueYard("\u00e9", -1, 1);
        String[] told = {"man", "way", "pails", "well", "spill", "back", "throw", "cells", "burn", "wind",
            "north", "east", "south", "west", "at", "row", "run", "stop", "aim", "give", "or", "and", "not",
            "out", "minute", "thrown", "lost", "burns", "water"};
        for (String word : told) {
            Check.dueYard("man " + word + " 1 1 1;", -5, 1);
        }
        Check.dueYard("man still 1 1 1;man name 1 1 1;man line 1 1 1;man cell 1 1 1;", 4, 0);
    }

    private static void yardNumbers() {
        Check.dueYard("man al 0 1 1;", -8, 2);
        Check.dueYard("man al 10 1 1;", -8, 2);
        Check.dueYard("man al 1 0 1;", -10, 2);
        Check.dueYard("man al 1 10 1;", -10, 2);
        Check.dueYard("man al 1 1 0;", -12, 2);
        Check.dueYard("man al 1 1 100;", -12, 2);
        Check.dueYard("way 9;", -5, 2);
        Check.dueYard("way 100;", -5, 2);
        Check.dueYard("pails 0 1;", -7, 2);
        Check.dueYard("pails 31 1;", -7, 2);
        Check.dueYard("pails 1 0;", -9, 2);
        Check.dueYard("pails 1 21;", -9, 2);
        Check.dueYard("well 0 1;", -6, 2);
        Check.dueYard("well 31 1;", -6, 2);
        Check.dueYard("well 1 10000;", -8, 2);
        Check.dueYard("spill 100;", -7, 2);
        Check.dueYard("back 0;", -6, 2);
        Check.dueYard("back 100;", -6, 2);
        Check.dueYard("throw 0;", -7, 2);
        Check.dueYard("throw 10;", -7, 2);
        Check.dueYard("cells 12;cells 123;", -16, 2);
        Check.dueYard("cells 12;cells 1;", -16, 2);
        Check.dueYard("burn 0 0;cells 1;", -6, 2);
        Check.dueYard("cells 12;burn 2 0;", -15, 2);
        Check.dueYard("cells 12;burn 0 1;", -17, 2);
        Check.dueYard("cells 02;burn 0 0;", -17, 2);
        Check.dueYard("cells 12;burn 2 9;", -15, 2);
    }

    private static void yardTwice() {
        Check.dueYard("man al 1 1 1;man al 1 1 1;", -18, 3);
        Check.dueYard("man ab 1 1 1;man ba 1 1 1;man a 1 1 1;man aa 1 1 1;", 4, 0);
        String[] once = {"way 20", "pails 1 1", "well 1 1", "spill 1", "back 1", "throw 1", "wind east"};
        for (String line : once) {
            Check.dueYard(line + ";" + line + ";", -1 - (line.length() + 1), 3);
            Check.dueYard(line + ";cells 1;" + line, -1 - (line.length() + 9), 3);
        }
        Check.dueYard("cells 12;burn 1 0;burn 0 0;burn 1 0;", -35, 3);
        Check.dueYard("way 20;way 5;", -8, 3);
        Check.dueYard("man al 1 1 1;man al 0 1 1;", -18, 3);
    }

    private static void yardTooMany() {
        StringBuilder men = new StringBuilder();
        for (int i = 0; i < 12; i++) {
            men.append("man m").append((char) ('a' + i)).append(" 1 1 1;");
        }
        Check.dueYard(men.toString(), 12, 0);
        Check.dueYard(men + "man ma 1 1 1;", -1 - men.length(), 4);
        StringBuilder rows = new StringBuilder();
        for (int i = 0; i < 8; i++) {
            rows.append("cells 12345678;");
        }
        Check.dueYard(rows.toString(), 8, 0);
        Check.dueYard(rows + "burn 7 7;", 9, 0);
        Check.dueYard(rows + "burn 0 8;", -1 - rows.length() - 7, 2);
        Check.dueYard(rows + "burn 8 0;", -1 - rows.length() - 5, 2);
        Check.dueYard(rows + "burn 7 99999999;", -1 - rows.length() - 7, 2);
        Check.dueYard(rows + "cells 1;", -1 - rows.length(), 4);
        Check.dueYard(men + rows.toString() + "way 20", -1 - men.length() - rows.length() - 6, 1);
    }

    private static void yardStays() {
        PailRow x = Check.yard(TWO);
        Check.duePlan(x, "at 1 run al;", 1, 0);
        Check.dueSentence(x, "out", 1, 0);
        Check.dueYard(x, "way 9;", -5, 2);
        Check.due("count(0)", x.count(0), 2);
        Check.due("count(4)", x.count(4), 1);
        Check.due("said(-1)", x.said(-1), 60);
        Check.dueYard(x, "way 40;", 1, 0);
        Check.due("count(0)", x.count(0), 0);
        Check.due("count(4)", x.count(4), 0);
        Check.due("said(-1)", x.said(-1), PailRow.NONE);
    }

    /** Nothing of the yards ahead is left in a new one. */
    private static void yardBeginsAnew() {
        String full = "man al 9 1 1;man bo 9 1 1;man cy 9 1 1;way 99;pails 1 1;well 30 7;spill 90;back 99;throw 9;"
                + "cells 99;cells 99;burn 0 0;burn 1 1;wind west;";
        String bare = "man al 1 2 5;man bo 1 2 5;cells 99;burn 0 0;";
        PailRow x = new PailRow();
        for (int i = 0; i < 3; i++) {
            Check.dueYard(x, full, 14, 0);
        }
        Check.dueYard(x, "", 0, 0);
        Check.dueYard(x, "", 0, 0);
        PailRow fresh = new PailRow();
        dueAlike(x, fresh);
        Check.dueYard(x, full, 14, 0);
        Check.dueYard(x, full, 14, 0);
        Check.dueYard(x, bare, 4, 0);
        Check.dueYard(fresh, bare, 4, 0);
        dueAlike(x, fresh);
        Check.dueYard(x, full, 14, 0);
        Check.dueYard(x, bare + "cells 9", -1 - bare.length() - 6, 2);
        Check.dueYard(x, bare + "cells 88;", 5, 0);
        Check.dueYard(fresh, bare + "cells 88;", 5, 0);
        dueAlike(x, fresh);
    }

    private static void dueAlike(PailRow x, PailRow fresh) {
        for (int what = 0; what <= 6; what++) {
            Check.due("count(" + what + ") behind others", x.count(what), fresh.count(what));
        }
        Check.due("row behind others", Check.men(x, 0, 1).row(700), Check.men(fresh, 0, 1).row(700));
        for (int what = 0; what <= 5; what++) {
            Check.due("rowBy(" + what + ") behind others", x.rowBy(what), fresh.rowBy(what));
        }
        Check.due("running behind others", Check.men(x, 0, 1).running(700), Check.men(fresh, 0, 1).running(700));
        for (int m = 0; m < 60; m++) {
            for (int what = 0; what < 4; what++) {
                Check.due("night behind others", x.night(m, what), fresh.night(m, what));
            }
        }
        Check.due("fire behind others", x.fire(1, 0, 0, 0), fresh.fire(1, 0, 0, 0));
        Check.due("out behind others", x.out(), fresh.out());
    }

    private static void longTexts() {
        Check.dueYard(Check.padded("way 20;", 700), 1, 0);
        Check.dueYard(Check.padded("way 20;", 701), -701, 1);
        Check.dueYard(Check.padded("way 9;", 740), -5, 2);
        Check.dueYard(Check.padded("", 699) + "way 20;", -701, 1);
        Check.dueYard(Check.padded("", 698) + "wayxyzq;", -699, 1);
        Check.dueYard(Check.padded("way", 699) + "9999;", -700, 2);
        Check.dueYard(Check.padded("way", 699) + "20;", -701, 1);
        Check.dueYard(Check.padded("way", 700) + "9;", -701, 1);
        Check.dueYard(Check.padded("way 20", 699) + ";", 1, 0);
        Check.dueYard(Check.padded("way 20", 700) + ";", -701, 1);
        Check.dueYard(Check.padded("way", 690), -691, 1);
    }

    private static void plans() {
        PailRow x = Check.yard(TWO);
        Check.duePlan(x, "", 0, 0);
        Check.duePlan(x, "at 0 row al bo;at 0 run bo;at 59 stop;at 59 aim 0;at 59 aim 3;at 59 aim 112;"
                + "at 59 give 2;", 7, 0);
        Check.due("count(4)", x.count(4), 7);
        Check.duePlan(x, "at 5 run bo al\n;", 1, 0);
        StringBuilder men = new StringBuilder();
        StringBuilder named = new StringBuilder();
        for (int i = 0; i < 12; i++) {
            men.append("man m").append((char) ('a' + i)).append(" 1 1 1;");
            named.append(" m").append((char) ('a' + i));
        }
        PailRow twelve = Check.yard(men.toString());
        Check.duePlan(twelve, "at 0 row" + named + ";at 1 run" + named + ";", 2, 0);
        Check.duePlan(twelve, "at 0 row" + named + " ma;", -1 - 9 - named.length(), 3);
    }

    private static void planFaults() {
        PailRow x = Check.yard(TWO);
        Check.duePlan(x, "at 1 run al;", 1, 0);
        Check.duePlan(x, "way 20;", -1, 1);
        Check.duePlan(x, "at al", -4, 1);
        Check.duePlan(x, "at 60 stop;", -4, 2);
        Check.duePlan(x, "at 5 stop;at 4 stop;", -14, 2);
        Check.duePlan(x, "at 5 stop", -10, 1);
        Check.duePlan(x, "at 5 al;", -6, 1);
        Check.duePlan(x, "at 5 row al;", -12, 1);
        Check.duePlan(x, "at 5 row;", -9, 1);
        Check.duePlan(x, "at 5 run;", -9, 1);
        Check.duePlan(x, "at 5 run al 5;", -13, 1);
        Check.duePlan(x, "at 5 row al al;", -13, 3);
        Check.duePlan(x, "at 5 run bo al bo", -16, 3);
        Check.duePlan(x, "at 5 run cy;", -10, 3);
        Check.duePlan(x, "at 5 row al bo cy;", -16, 3);
        Check.duePlan(x, "at 5 row al bo at 6 stop;", -16, 1);
        Check.duePlan(x, "at 5 aim 4;", -10, 2);
        Check.duePlan(x, "at 5 aim 99;", -10, 2);
        Check.duePlan(x, "at 5 aim 103;", -10, 2);
        Check.duePlan(x, "at 5 aim 120;", -10, 2);
        Check.duePlan(x, "at 5 aim 109;", -10, 2);
        Check.duePlan(x, "at 5 aim al;", -10, 1);
        Check.duePlan(x, "at 5 aim;", -9, 1);
        Check.duePlan(x, "at 5 give 3;", -11, 2);
        Check.duePlan(x, "at 5 give;", -10, 1);
        Check.due("count(4)", x.count(4), 1);
        StringBuilder twenty = new StringBuilder();
        for (int i = 0; i < 20; i++) {
            twenty.append("at 1 stop;");
        }
        Check.duePlan(x, twenty + "at 60", -201, 4);
        Check.duePlan(x, twenty + "stop", -201, 1);
        Check.due("count(4)", x.count(4), 1);
        Check.duePlan(x, twenty.toString(), 20, 0);
        Check.due("count(4)", x.count(4), 20);
        Check.duePlan(Check.yard("man al 1 1 1;"), "at 5 aim 100;", -10, 2);
        Check.duePlan(Check.yard("man al 1 1 1;"), "at 5 give 0;", -11, 2);
        Check.duePlan(Check.yard("man al 1 1 1;"), "at 5 aim 3;", 1, 0);
    }

    private static void longPlans() {
        PailRow x = Check.yard(TWO);
        Check.duePlan(x, Check.padded("at 1 stop;", 400), 1, 0);
        Check.duePlan(x, Check.padded("at 1 stop;", 401), -401, 1);
        Check.duePlan(x, Check.padded("at 60", 401), -4, 2);
        Check.dueSentence(x, Check.padded("out", 200), 1, 0);
        Check.dueSentence(x, Check.padded("out", 201), -201, 1);
        Check.dueSentence(x, Check.padded("lost=", 199) + "12", -201, 1);
        Check.dueSentence(x, Check.padded("lost=", 199) + "1x", -200, 1);
        Check.dueSentence(x, Check.padded("out", 199) + "x", -200, 1);
    }

    private static void sentences() {
        PailRow x = new PailRow();
        Check.dueSentence(x, "out", 1, 0);
        Check.dueSentence(x, "not out", 2, 0);
        Check.dueSentence(x, "(out)", 2, 0);
        Check.dueSentence(x, "not(out or lost>5)and minute<99999999", 5, 0);
        Check.dueSentence(x, "thrown=0 and burns=0 or water>1", 3, 0);
        StringBuilder twenty = new StringBuilder("out");
        for (int i = 1; i < 20; i++) {
            twenty.append(i % 2 == 0 ? " or out" : " and out");
        }
        Check.dueSentence(x, twenty.toString(), 20, 0);
        Check.dueSentence(x, twenty + " or out", -1 - twenty.length() - 4, 4);
        Check.dueSentence(x, twenty + " or al", -1 - twenty.length() - 4, 1);
        Check.dueSentence(x, "not not not not not not not out", 8, 0);
        Check.dueSentence(x, "not not not not not not not not out", -33, 4);
        Check.dueSentence(x, "((((((( out )))))))", 8, 0);
        Check.dueSentence(x, "(((((((( out ))))))))", -10, 4);
        Check.dueSentence(x, "(((((((( al", -10, 1);
        Check.dueSentence(x, "(not(not(not(out and lost=1))))", 9, 0);
    }

    private static void sentenceFaults() {
        PailRow x = new PailRow();
        Check.dueSentence(x, "out", 1, 0);
        Check.dueSentence(x, "", -1, 1);
        Check.dueSentence(x, "out out", -5, 1);
        Check.dueSentence(x, "out or", -7, 1);
        Check.dueSentence(x, "or out", -1, 1);
        Check.dueSentence(x, "out and", -8, 1);
        Check.dueSentence(x, "(out", -5, 1);
        Check.dueSentence(x, "out)", -4, 1);
        Check.dueSentence(x, "()", -2, 1);
        Check.dueSentence(x, "lost 5", -6, 1);
        Check.dueSentence(x, "lost>", -6, 1);
        Check.dueSentence(x, "lost>out", -6, 1);
        Check.dueSentence(x, "lost>=5", -6, 1);
        Check.dueSentence(x, "lost(5", -5, 1);
        Check.dueSentence(x, "water=123456789", -7, 1);
        Check.dueSentence(x, "out;", -4, 1);
        Check.dueSentence(x, "al", -1, 1);
        Check.due("said(-1): the first one stays", x.said(-1), 60);
    }
}
