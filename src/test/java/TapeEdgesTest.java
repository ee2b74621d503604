/** Promises 1 to 3, 5 and 35 at their edges, and which calls empty the tape. */
public final class TapeEdgesTest {
    private static final String YARD = "man al 2 3 5;man bo 1 2 9;way 20;pails 3 10;well 4 100;cells 99;burn 0 0;";

    public static void main(String[] args) {
        newYard();
        newTape();
        aheadOfAny();
        objectsApart();
        feedUpToFull();
        feedWhenFull();
        feedOrder();
        ends();
        endKeepsTheFirst();
        faultKinds();
        faultOfTheLatest();
        counts();
        emptied();
        left();
        throwingLeavesIt();
        Check.end();
    }

    private static void newYard() {
        Check.promise(1);
        PailRow x = new PailRow();
        int[] counts = {0, 0, 0, 6, 0, 0, 30};
        for (int what = 0; what < counts.length; what++) {
            Check.due("new count(" + what + ")", x.count(what), counts[what]);
        }
        Check.dueNoSuch("new man(0, 0)", () -> x.man(0, 0));
        Check.dueNoSuch("new cell(0, 0, 0)", () -> x.cell(0, 0, 0));
        for (int m = 0; m < 60; m++) {
            Check.due("no PLAN: night(" + m + ", 0)", x.night(m, 0), 0);
            Check.due("no CELLS: night(" + m + ", 1)", x.night(m, 1), 0);
            Check.due("no CELLS: night(" + m + ", 2)", x.night(m, 2), 0);
            Check.due("a full well: night(" + m + ", 3)", x.night(m, 3), 9999);
        }
        Check.due("no SENTENCE: said(-1)", x.said(-1), PailRow.NONE);
        Check.due("no SENTENCE: said(0)", x.said(0), PailRow.NONE);
        Check.due("nothing kept: restore(0)", x.restore(0), false);
        Check.due("nothing kept: restore(1)", x.restore(1), false);
    }

    private static void newTape() {
        Check.promise(1);
        PailRow x = new PailRow();
        Check.due("new count(5)", x.count(5), 0);
        Check.due("new end(1)", x.end(1), false);
        Check.due("new end(0)", x.end(0), true);
        Check.due("new yard()", x.yard(), 0);
        Check.due("new plan()", new PailRow().plan(), 0);
        Check.due("new sentence()", new PailRow().sentence(), -1);
        Check.due("new row(1)", new PailRow().row(1), PailRow.NONE);
        Check.due("new relief()", new PailRow().relief(), -2);
        Check.due("new hooks(1)", new PailRow().hooks(1), PailRow.NONE);
    }

    private static void aheadOfAny() {
        PailRow x = new PailRow();
        for (int i = 0; i < 12; i++) {
            Check.promise(9);
            Check.due("rowBy(" + i + ") ahead of any", x.rowBy(i), PailRow.NONE);
            Check.promise(10);
            Check.due("done(" + i + ") ahead of any", x.done(i), PailRow.NONE);
            Check.promise(13);
            Check.due("bestAt(" + i + ") ahead of any", x.bestAt(i), PailRow.NONE);
            Check.promise(18);
            Check.due("moreAt(" + i + ") ahead of any", x.moreAt(i), PailRow.NONE);
            Check.promise(21);
            Check.due("hookAt(" + i + ") ahead of any", x.hookAt(i), PailRow.NONE);
            Check.promise(23);
            Check.due("fireAt(0, 0, " + i + ") ahead of any", x.fireAt(0, 0, i), PailRow.NONE);
            Check.promise(26);
            Check.due("aimAt(" + i + ") ahead of any", x.aimAt(i), PailRow.NONE);
        }
        Check.promise(24);
        Check.due("out() ahead of any", x.out(), PailRow.NONE);
        Check.promise(5);
        Check.due("fault() ahead of any", x.fault(), 0);
    }

    /** Nothing of one object reaches another. */
    private static void objectsApart() {
        Check.promise(1);
        PailRow used = Check.yard(YARD);
        Check.duePlan(used, "at 0 row al bo;", 1, 0);
        Check.dueSentence(used, "out", 1, 0);
        used.image(0);
        used.feed(1, 2, 3, 4, 5);
        newYard();
        newTape();
        aheadOfAny();
    }

    private static void feedUpToFull() {
        Check.promise(2);
        PailRow x = new PailRow();
        for (int i = 1; i <= 37; i++) {
            Check.due("feed " + i, x.feed(0, 0, 0, 0, 0), 20 * i);
            Check.due("count(5) behind feed " + i, x.count(5), 20 * i);
        }
        Check.due("feed 38", x.feed(0, 0, 0, 0, 0), PailRow.NONE);
        Check.due("count(5) behind feed 38", x.count(5), 740);
        for (int n = 722; n <= 739; n++) {
            x.end(0);
            fill(x);
            x.end(n);
            Check.due("feed at " + n, x.feed(0, 0, 0, 0, 0), PailRow.NONE);
            Check.due("count(5) behind it", x.count(5), n);
        }
        x.end(721);
        Check.due("feed at 721: 741 would be too many", x.feed(0, 0, 0, 0, 0), PailRow.NONE);
        Check.due("count(5) behind it", x.count(5), 721);
        x.end(720);
        Check.due("feed at 720: 740 is not too many", x.feed(0, 0, 0, 0, 0), 740);
        x.end(719);
        Check.due("feed at 719", x.feed(0, 0, 0, 0, 0), 739);
    }

    private static void fill(PailRow x) {
        for (int i = 0; i < 37; i++) {
            x.feed(0, 0, 0, 0, 0);
        }
    }

    private static void feedWhenFull() {
        Check.promise(2);
        PailRow x = Check.tape(new PailRow(), "way 21;" + " ".repeat(733));
        Check.due("feed when full", x.feed(0x77617920, 0x32323b20, -1, -1, -1), PailRow.NONE);
        Check.due("feed when full", x.feed(-1, -1, -1, -1, -1), PailRow.NONE);
        x.end(700);
        Check.due("none have come: yard()", x.yard(), 1);
        Check.due("none have come: count(6)", x.count(6), 21);
    }

    private static void feedOrder() {
        Check.promise(2);
        PailRow x = new PailRow();
        // Each of the twenty bytes counts: "man abcdef 9 8 76;\n ".
        x.feed(0x6d616e20, 0x61626364, 0x65662039, 0x20382037, 0x363b0a20);
        Check.due("yard()", x.yard(), 1);
        Check.due("man(0, 0)", x.man(0, 0), 9);
        Check.due("man(0, 1)", x.man(0, 1), 8);
        Check.due("man(0, 2)", x.man(0, 2), 76);
        // Houses at the bytes' numbers, one behind the other.
        x.feed(0x00010203, 0x04050607, 0x08090a63, -1, -1);
        x.end(12);
        Check.due("hooks(6) of the first twelve bytes", x.hooks(6), 1);
        Check.due("hookAt(5)", x.hookAt(5), 99);
        int[] high = {0x64, 0x7f, 0x80, 0xff};
        for (int b : high) {
            x.feed(b << 24, 0, 0, 0, 0);
            x.end(1);
            Check.due("hooks(1) of byte " + b, x.hooks(1), PailRow.NONE);
        }
        x.feed(0x63 << 24, 0, 0, 0, 0);
        x.end(1);
        Check.due("hooks(1) of byte 99", x.hooks(1), 0);
    }

    private static void ends() {
        Check.promise(3);
        PailRow x = new PailRow();
        Check.due("end(0) of none", x.end(0), true);
        Check.due("end(1) of none", x.end(1), false);
        Check.dueRange("end of a full tape", 0, 740, 0, n -> {
            x.end(0);
            fill(x);
            boolean taken = x.end(n);
            Check.due("count(5) behind end(" + n + ")", x.count(5), taken ? n : 740);
            return taken ? 1 : 0;
        });
        x.end(0);
        x.feed(0, 0, 0, 0, 0);
        Check.due("end(21) of 20", x.end(21), false);
        Check.due("count(5)", x.count(5), 20);
        Check.due("end(20) of 20", x.end(20), true);
        Check.due("end(19) of 20", x.end(19), true);
        Check.due("end(20) of 19: what is gone is gone", x.end(20), false);
        Check.due("end(-1)", x.end(-1), false);
        Check.due("count(5)", x.count(5), 19);
    }

    private static void endKeepsTheFirst() {
        Check.promise(3);
        PailRow x = Check.tape(new PailRow(), "way 21;way 22;");
        x.end(7);
        Check.due("the first seven bytes alone: yard()", x.yard(), 1);
        Check.due("count(6)", x.count(6), 21);
        Check.tape(x, "way 23;way 24;");
        x.end(5);
        x.feed(0x353b2020, 0x20202020, 0x20202020, 0x20202020, 0x20202020);
        Check.due("fed behind the first five: yard()", x.yard(), 1);
        Check.due("count(6)", x.count(6), 25);
        Check.tape(x, "way 23;way 24;");
        x.end(4);
        x.feed(0x35353b20, 0x20202020, 0x20202020, 0x20202020, 0x20202020);
        Check.due("fed behind the first four: yard()", x.yard(), 1);
        Check.due("count(6)", x.count(6), 55);
        Check.tape(x, "way 23;");
        Check.due("a refused end leaves all", x.end(8), false);
        Check.due("yard()", x.yard(), 1);
        Check.due("count(6)", x.count(6), 23);
    }

    private static void faultKinds() {
        Check.promise(5);
        PailRow x = new PailRow();
        Check.dueYard(x, ".", -1, 1);
        Check.dueYard(x, "way 9;", -5, 2);
        Check.dueYard(x, "back 1;back 1;", -8, 3);
        Check.dueYard(x, "", 0, 0);
        Check.dueYard(x, Check.alike(12, 1) + "man z 1 1 1;", -1 - 12 * 13, 4);
        Check.dueYard(x, Check.alike(2, 1), 2, 0);
        Check.duePlan(x, ".", -1, 1);
        Check.duePlan(x, "at 60 stop;", -4, 2);
        Check.duePlan(x, "at 6 run z;", -10, 3);
        Check.duePlan(x, "at 6 run ma;", 1, 0);
        Check.duePlan(x, "at 1 stop;".repeat(20) + "at", -201, 4);
        Check.dueSentence(x, "out", 1, 0);
        Check.dueSentence(x, ".", -1, 1);
        Check.dueSentence(x, "not ".repeat(8) + "out", -33, 4);
        Check.dueSentence(x, "not ".repeat(7) + "out", 8, 0);
    }

    private static void faultOfTheLatest() {
        Check.promise(5);
        PailRow x = Check.yard(YARD);
        Check.dueYard(x, "way 9;", -5, 2);
        Check.men(x, 0, 7).row(5);
        Check.men(x, 0, 1).row(5);
        x.fire(61, 0, 0, 0);
        x.night(60, 0);
        x.image(0);
        Check.due("fault() behind calls that read no text", x.fault(), 2);
        x.restore(0);
        Check.due("fault() behind restore", x.fault(), 2);
        Check.dueSentence(x, "out", 1, 0);
        Check.duePlan(x, "at 1 run zz;", -10, 3);
        x.restore(0);
        Check.due("fault() behind restore", x.fault(), 3);
        Check.dueYard(x, "", 0, 0);
    }

    private static void counts() {
        Check.promise(35);
        PailRow x = Check.yard(YARD + "cells 11;cells 22;");
        Check.duePlan(x, "at 0 stop;at 0 stop;at 0 stop;at 0 stop;at 0 stop;", 5, 0);
        x.feed(0, 0, 0, 0, 0);
        x.end(19);
        int[] due = {2, 2, 3, 3, 5, 19, 20};
        for (int what = 0; what < due.length; what++) {
            Check.due("count(" + what + ")", x.count(what), due[what]);
        }
        Check.dueRange("count", 0, 6, PailRow.NONE, x::count);
        PailRow most = Check.yard(Check.alike(12, 1) + "pails 30 1;way 99;" + "cells 12345678;".repeat(8));
        Check.duePlan(most, "at 1 stop;".repeat(20), 20, 0);
        fill(most);
        int[] mostDue = {12, 8, 8, 30, 20, 740, 99};
        for (int what = 0; what < mostDue.length; what++) {
            Check.due("count(" + what + ") at most", most.count(what), mostDue[what]);
        }
        PailRow least = Check.yard("man al 1 1 1;pails 1 1;way 10;cells 1;");
        int[] leastDue = {1, 1, 1, 1, 0, 0, 10};
        for (int what = 0; what < leastDue.length; what++) {
            Check.due("count(" + what + ") at least", least.count(what), leastDue[what]);
        }
    }

    private static void dueEmptied(int promise, String what, PailRow x, Check.Call call) {
        Check.promise(promise);
        Check.answerOf(call);
        Check.due(what + ": count(5) behind it", x.count(5), 0);
    }

    /** "empty then, here and below, whatever is answered". */
    private static void emptied() {
        PailRow x = Check.yard(YARD);
        int[][] tapes = {{0, 1}, {1, 0}, {0}, {0, 0}, {0, 2}, Check.rising(20), Check.rising(740)};
        for (int[] tape : tapes) {
            String of = " of " + tape.length + " bytes";
            dueEmptied(8, "row" + of, x, () -> Check.men(x, tape).row(5));
            dueEmptied(8, "row(-1)" + of, x, () -> Check.men(x, tape).row(-1));
            dueEmptied(8, "row(3601)" + of, x, () -> Check.men(x, tape).row(3601));
            dueEmptied(11, "period" + of, x, () -> Check.men(x, tape).period());
            dueEmptied(12, "best" + of, x, () -> Check.men(x, tape).best());
            dueEmptied(14, "running" + of, x, () -> Check.men(x, tape).running(5));
            dueEmptied(14, "running(3601)" + of, x, () -> Check.men(x, tape).running(3601));
            dueEmptied(17, "more" + of, x, () -> Check.men(x, tape).more(1));
            dueEmptied(17, "more(10)" + of, x, () -> Check.men(x, tape).more(10));
            dueEmptied(19, "relief" + of, x, () -> Check.men(x, tape).relief());
            dueEmptied(20, "hooks" + of, x, () -> Check.men(x, tape).hooks(1));
            dueEmptied(20, "hooks(0)" + of, x, () -> Check.men(x, tape).hooks(0));
            dueEmptied(20, "hooks(7)" + of, x, () -> Check.men(x, tape).hooks(7));
            dueEmptied(29, "plan" + of, x, () -> Check.men(x, tape).plan());
            dueEmptied(31, "sentence" + of, x, () -> Check.men(x, tape).sentence());
            dueEmptied(4, "yard" + of, x, () -> Check.men(x, tape).yard());
        }
        dueEmptied(16, "cost", x, () -> Check.men(x, 0, 1).cost(1, 60));
        dueEmptied(29, "plan without fault", x, () -> Check.tape(x, "at 0 stop;").plan());
        dueEmptied(31, "sentence without fault", x, () -> Check.tape(x, "out").sentence());
        dueEmptied(4, "yard without fault", x, () -> Check.tape(x, YARD).yard());
    }

    private static void dueLeft(int promise, String what, PailRow x, Check.Call call) {
        Check.promise(promise);
        Check.men(x, 0, 1);
        Check.answerOf(call);
        Check.due(what + ": count(5) behind it", x.count(5), 2);
        Check.due(what + ": the tape's men behind it", x.period(), 11);
    }

    /** Calls that do not speak of the tape leave it. */
    private static void left() {
        PailRow x = Check.yard(YARD);
        dueLeft(5, "fault", x, x::fault);
        dueLeft(6, "man", x, () -> x.man(0, 0));
        dueLeft(7, "cell", x, () -> x.cell(0, 0, 0));
        dueLeft(9, "rowBy", x, () -> x.rowBy(0));
        dueLeft(10, "done", x, () -> x.done(0));
        dueLeft(13, "bestAt", x, () -> x.bestAt(0));
        dueLeft(15, "line", x, () -> x.line(600));
        dueLeft(18, "moreAt", x, () -> x.moreAt(0));
        dueLeft(21, "hookAt", x, () -> x.hookAt(0));
        dueLeft(22, "fire", x, () -> x.fire(5, 5, 1, 0));
        dueLeft(23, "fireAt", x, () -> x.fireAt(0, 0, 0));
        dueLeft(24, "out", x, x::out);
        dueLeft(25, "aims", x, () -> x.aims(1, 5));
        dueLeft(26, "aimAt", x, () -> x.aimAt(0));
        dueLeft(27, "give", x, () -> x.give(5));
        dueLeft(28, "enough", x, () -> x.enough(1, 5));
        dueLeft(30, "night", x, () -> x.night(5, 1));
        dueLeft(32, "said", x, () -> x.said(0));
        dueLeft(33, "image", x, () -> x.image(0) ? 1 : 0);
        dueLeft(34, "restore", x, () -> x.restore(0) ? 1 : 0);
        dueLeft(35, "count", x, () -> x.count(0));
    }

    /** "a call that throws leaves it". */
    private static void throwingLeavesIt() {
        PailRow x = Check.yard(YARD);
        dueLeft(6, "man that throws", x, () -> x.man(2, 0));
        dueLeft(7, "cell that throws", x, () -> x.cell(2, 0, 0));
        dueLeft(16, "cost that throws", x, () -> x.cost(1, 59));
        Check.promise(16);
        int[][] tapes = {{}, {0}, {0, 0}, {0, 2}, Check.rising(13), Check.rising(740)};
        for (int[] tape : tapes) {
            Check.men(x, tape);
            Check.dueNoSuch("cost of " + tape.length + " bytes", () -> x.cost(1, 60));
            Check.due("count(5) behind it", x.count(5), tape.length);
        }
    }
}
