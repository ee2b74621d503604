/** Promises 6 to 21. */
public final class RowsTest {
    private static final String PAIR = "man al 1 1 1;man bo 1 1 1;way 10;pails 1 10;well 1 25;back 3;throw 1;";
    private static final String THREE =
            "man al 2 3 5;man bo 1 2 9;man cy 3 5 1;way 20;pails 3 10;well 4 100;spill 10;back 5;throw 2;";

    public static void main(String[] args) {
        menAndCells();
        pair();
        tired();
        spilling();
        heaps();
        rowNotAsTold();
        periods();
        orders();
        runningMen();
        lines();
        costs();
        others();
        reliefs();
        hooks();
        Check.end();
    }

    private static void menAndCells() {
        PailRow x = Check.yard(THREE + "cells 90;cells 12;burn 0 0;");
        Check.due("man(0, 0)", x.man(0, 0), 2);
        Check.due("man(0, 1)", x.man(0, 1), 3);
        Check.due("man(2, 2)", x.man(2, 2), 1);
        Check.dueNoSuch("man(3, 0)", () -> x.man(3, 0));
        Check.dueNoSuch("man(-1, 0)", () -> x.man(-1, 0));
        Check.dueNoSuch("man(0, 3)", () -> x.man(0, 3));
        Check.dueNoSuch("man(0, -1)", () -> x.man(0, -1));
        Check.due("cell(0, 0, 0)", x.cell(0, 0, 0), 9);
        Check.due("cell(0, 0, 1)", x.cell(0, 0, 1), 1);
        Check.due("cell(1, 1, 0)", x.cell(1, 1, 0), 2);
        Check.due("cell(1, 1, 1)", x.cell(1, 1, 1), 0);
        x.fire(5, 0, 0, 0);
        Check.due("cell(0, 0, 0) as told", x.cell(0, 0, 0), 9);
        Check.dueNoSuch("cell(2, 0, 0)", () -> x.cell(2, 0, 0));
        Check.dueNoSuch("cell(0, 2, 0)", () -> x.cell(0, 2, 0));
        Check.dueNoSuch("cell(-1, 0, 0)", () -> x.cell(-1, 0, 0));
        Check.dueNoSuch("cell(0, -1, 0)", () -> x.cell(0, -1, 0));
        Check.dueNoSuch("cell(0, 0, 2)", () -> x.cell(0, 0, 2));
        Check.dueNoSuch("cell(0, 0, -1)", () -> x.cell(0, 0, -1));
    }

    private static void dueRow(PailRow x, int ticks, int want, int... men) {
        Check.due("row(" + ticks + ")", Check.men(x, men).row(ticks), want);
        Check.due("count(5) behind it", x.count(5), 0);
    }

    private static void dueRowBy(PailRow x, int... want) {
        for (int what = 0; what < want.length; what++) {
            Check.due("rowBy(" + what + ")", x.rowBy(what), want[what]);
        }
    }

    private static void pair() {
        PailRow x = Check.yard(PAIR);
        dueRow(x, 0, 0, 0, 1);
        dueRowBy(x, 0, 0, 0, 0, 0, 0);
        dueRow(x, 1, 0, 0, 1);
        dueRowBy(x, 0, 0, 10, 0, 0, 10);
        dueRow(x, 5, 0, 0, 1);
        dueRowBy(x, 1, 1, 10, 0, 0, 10);
        Check.due("done(0)", x.done(0), 1);
        Check.due("done(1)", x.done(1), 0);
        dueRow(x, 7, 0, 0, 1);
        dueRow(x, 8, 10, 0, 1);
        dueRow(x, 10, 10, 0, 1);
        Check.due("rowBy(2)", x.rowBy(2), 10);
        dueRow(x, 11, 10, 1, 0);
        Check.due("rowBy(2)", x.rowBy(2), 20);
        dueRow(x, 17, 10, 0, 1);
        dueRow(x, 18, 20, 0, 1);
        dueRow(x, 27, 20, 0, 1);
        dueRow(x, 28, 25, 0, 1);
        dueRow(x, 3600, 25, 0, 1);
        dueRowBy(x, 1, 1, 25, 0, 3, 0, PailRow.NONE);
        Check.due("rowBy(-1)", x.rowBy(-1), PailRow.NONE);
        Check.due("done(1)", x.done(1), 3);
        Check.due("done(2)", x.done(2), PailRow.NONE);
        Check.due("done(-1)", x.done(-1), PailRow.NONE);
    }

    private static void tired() {
        PailRow x = Check.yard(PAIR.replace("well 1 25", "well 1 9999"));
        dueRow(x, 97, 90, 0, 1);
        dueRow(x, 98, 100, 0, 1);
        dueRow(x, 113, 100, 0, 1);
        dueRow(x, 114, 110, 0, 1);
        PailRow strong = Check.yard(PAIR.replace("well 1 25", "well 1 9999").replace("bo 1 1 1", "bo 1 1 2"));
        dueRow(strong, 111, 100, 0, 1);
        dueRow(strong, 112, 110, 0, 1);
    }

    private static void spilling() {
        PailRow x = Check.yard("man al 1 1 9;man bo 1 1 9;man cy 1 1 9;pails 1 5;well 1 5;spill 50;");
        dueRow(x, 3600, 2, 0, 1, 2);
        dueRowBy(x, 1, 1, 5, 3, 1, 0);
        PailRow three = Check.yard(THREE);
        dueRow(three, 18, 0, 0, 1, 2);
        dueRow(three, 19, 9, 0, 1, 2);
        dueRowBy(three, 1, 1, 30, 2, 1, 19);
    }

    private static void heaps() {
        // Drawing takes 3, handing 2, throwing 18: the ninth pail comes to the thrower at 31, when one is
        // thrown and one in his hands.
        PailRow x = Check.yard("man al 1 1 99;man bo 1 1 99;man cy 9 1 99;way 10;pails 9 3;well 1 9999;throw 9;");
        dueRow(x, 200, 30, 0, 1, 2);
        Check.due("rowBy(0)", x.rowBy(0), 7);
        Check.due("rowBy(1)", x.rowBy(1), 2);
        dueRow(x, 6, 0, 0, 1, 2);
        Check.due("rowBy(0) of a row that begins anew", x.rowBy(0), 1);
        Check.due("rowBy(1) of a row that begins anew", x.rowBy(1), 1);
        // Both places have one pail at most: the first of them.
        PailRow like = Check.yard(PAIR.replace(";way", ";man cy 1 1 1;way"));
        dueRow(like, 300, 25, 0, 1, 2);
        Check.due("rowBy(0)", like.rowBy(0), 1);
        Check.due("rowBy(1)", like.rowBy(1), 1);
    }

    private static void rowNotAsTold() {
        PailRow x = Check.yard(THREE);
        dueRow(x, 5, PailRow.NONE);
        Check.due("rowBy(0) ahead of any", x.rowBy(0), PailRow.NONE);
        Check.due("done(0) ahead of any", x.done(0), PailRow.NONE);
        dueRow(x, 19, 9, 0, 1, 2);
        dueRow(x, 5, PailRow.NONE, 0);
        dueRow(x, 5, PailRow.NONE, 0, 3);
        dueRow(x, 5, PailRow.NONE, 0, 255);
        dueRow(x, 5, PailRow.NONE, 1, 1);
        dueRow(x, -1, PailRow.NONE, 0, 1);
        dueRow(x, 3601, PailRow.NONE, 0, 1);
        dueRow(x, 5, PailRow.NONE, 0, 1, 2, 3, 4, 5, 6, 7, 8, 9, 10, 11, 12);
        Check.due("rowBy(4) of the latest", x.rowBy(4), 1);
        Check.due("done(0) of the latest", x.done(0), 2);
        Check.dueYard(x, "", 0, 0);
        Check.due("rowBy(4) behind a new yard", x.rowBy(4), 1);
    }

    private static void periods() {
        PailRow x = Check.yard(THREE);
        Check.due("period 0 1 2", Check.men(x, 0, 1, 2).period(), 8);
        Check.due("count(5)", x.count(5), 0);
        Check.due("period 2 1 0", Check.men(x, 2, 1, 0).period(), 9);
        Check.due("period 0 2", Check.men(x, 0, 2).period(), 11);
        Check.due("period 1", Check.men(x, 1).period(), PailRow.NONE);
        Check.due("period 1 1", Check.men(x, 1, 1).period(), PailRow.NONE);
        Check.due("period 1 3", Check.men(x, 1, 3).period(), PailRow.NONE);
    }

    private static void dueBest(PailRow x, int want, int[] men, int... order) {
        Check.due("best", Check.men(x, men).best(), want);
        Check.due("count(5)", x.count(5), 0);
        for (int p = 0; p < order.length; p++) {
            Check.due("bestAt(" + p + ")", x.bestAt(p), order[p]);
        }
        Check.due("bestAt behind", x.bestAt(order.length), PailRow.NONE);
        Check.due("bestAt(-1)", x.bestAt(-1), PailRow.NONE);
    }

    private static void orders() {
        PailRow x = Check.yard(THREE);
        Check.due("bestAt(0) ahead of any", x.bestAt(0), PailRow.NONE);
        dueBest(x, 7, new int[] {2, 0, 1}, 1, 0, 2);
        dueBest(x, PailRow.NONE, new int[] {2}, 1, 0, 2);
        dueBest(x, PailRow.NONE, new int[] {2, 2}, 1, 0, 2);
        dueBest(x, PailRow.NONE, new int[] {2, 3}, 1, 0, 2);
        dueBest(x, 10, new int[] {1, 2}, 1, 2);
        PailRow like = Check.yard("man a 1 1 1;man b 1 1 1;man c 1 1 1;man d 1 1 1;man e 1 1 1;man f 1 1 1;"
                + "man g 1 1 1;man h 1 1 1;");
        dueBest(like, 7, new int[] {7, 6, 5, 4, 3, 2, 1}, 1, 2, 3, 4, 5, 6, 7);
        dueBest(like, PailRow.NONE, new int[] {7, 6, 5, 4, 3, 2, 1, 0}, 1, 2, 3, 4, 5, 6, 7);
    }

    private static void dueRunning(PailRow x, int ticks, int want, int... men) {
        Check.due("running(" + ticks + ")", Check.men(x, men).running(ticks), want);
        Check.due("count(5) behind it", x.count(5), 0);
    }

    private static void runningMen() {
        PailRow x = Check.yard(THREE);
        int[] ticks = {0, 11, 12, 16, 17, 18, 19};
        int[] due = {0, 0, 5, 5, 10, 10, 15};
        for (int i = 0; i < ticks.length; i++) {
            dueRunning(x, ticks[i], due[i], 0, 1, 2);
        }
        // One man: drawn at 6, thrown at 8, back at 10, drawn at 15, thrown at 17; half of 5 is 3.
        PailRow one = Check.yard("man al 1 9 1;man bo 1 9 1;way 10;pails 1 5;well 5 9;");
        dueRunning(one, 7, 0, 0);
        dueRunning(one, 8, 3, 0);
        dueRunning(one, 16, 3, 0);
        dueRunning(one, 17, 5, 0);
        dueRunning(one, 3600, 5, 0);
        dueRunning(one, 17, 5, 1, 0);
        dueRunning(one, 5, PailRow.NONE);
        dueRunning(one, 5, PailRow.NONE, 2);
        dueRunning(one, 5, PailRow.NONE, 0, 0);
        dueRunning(one, -1, PailRow.NONE, 0);
        dueRunning(one, 3601, PailRow.NONE, 0);
    }

    private static void lines() {
        PailRow x = Check.yard(THREE);
        x.feed(0, 0, 0, 0, 0);
        Check.due("line(12)", x.line(12), PailRow.NONE);
        Check.due("line(19)", x.line(19), PailRow.NONE);
        Check.due("line(35)", x.line(35), 2);
        Check.due("line(3601)", x.line(3601), PailRow.NONE);
        Check.due("line(-1)", x.line(-1), PailRow.NONE);
        Check.due("line leaves the tape", x.count(5), 20);
        Check.due("line of one", Check.yard("man al 1 1 1;").line(3600), PailRow.NONE);
    }

    private static void dueCost(PailRow x, int m, int ticks, int want, int... men) {
        Check.due("cost(" + m + ", " + ticks + ")", Check.men(x, men).cost(m, ticks), want);
        Check.due("count(5) behind it", x.count(5), 0);
    }

    private static void dueNoCost(PailRow x, int m, int ticks, int... men) {
        Check.men(x, men);
        Check.dueNoSuch("cost(" + m + ", " + ticks + ")", () -> x.cost(m, ticks));
        Check.due("count(5) behind it", x.count(5), men.length);
    }

    private static void costs() {
        PailRow x = Check.yard(THREE);
        dueCost(x, 0, 35, 0, 0, 1, 2);
        dueCost(x, 60, 3600, Check.men(x, 0, 1).row(3600) - Check.men(x, 0, 1).running(3600), 0, 1);
        // Running draws 30 of 100 litres in the first 19 ticks, more in 60: the row has what is left.
        PailRow little = Check.yard("man al 1 9 9;man bo 1 9 9;way 10;pails 2 10;well 1 20;");
        dueCost(little, 1, 600, 20 - 10, 0, 1);
        dueNoCost(x, 1, 59, 0, 1);
        dueNoCost(x, -1, 59, 0, 1);
        dueNoCost(x, 61, 3600, 0, 1);
        dueNoCost(x, 1, 3601, 0, 1);
        dueNoCost(x, 1, 60, 0);
        dueNoCost(x, 1, 60, 0, 0);
        dueNoCost(x, 1, 60, 0, 3);
    }

    private static void others() {
        PailRow x = Check.yard(THREE);
        Check.due("moreAt(0) ahead of any", x.moreAt(0), PailRow.NONE);
        int[] due = {8, 5, 4, 3, 3};
        for (int n = 0; n < due.length; n++) {
            Check.due("more(" + n + ")", Check.men(x, 0, 1, 2).more(n), due[n]);
        }
        Check.due("more(3)", Check.men(x, 0, 1, 2).more(3), 3);
        int[] at = {2, 0, 1, PailRow.NONE};
        Check.due("more(10)", Check.men(x, 0, 1, 2).more(10), PailRow.NONE);
        Check.due("count(5)", x.count(5), 0);
        Check.due("more(-1)", Check.men(x, 0, 1, 2).more(-1), PailRow.NONE);
        Check.due("more of one", Check.men(x, 0).more(1), PailRow.NONE);
        for (int p = 0; p < at.length; p++) {
            Check.due("moreAt(" + p + ")", x.moreAt(p), at[p]);
        }
        Check.due("moreAt(-1)", x.moreAt(-1), PailRow.NONE);
        PailRow like = Check.yard("man al 2 1 1;man bo 2 1 1;way 10;well 2 9;throw 4;");
        Check.due("more(1) of like ones", Check.men(like, 0, 1).more(1), 6);
        Check.due("the first", like.moreAt(0), 1);
    }

    private static void dueRelief(int want, int... powers) {
        StringBuilder yard = new StringBuilder();
        int[] men = new int[powers.length];
        for (int i = 0; i < powers.length; i++) {
            yard.append("man m").append((char) ('a' + i)).append(" 1 1 ").append(powers[i]).append(';');
            men[i] = i;
        }
        PailRow x = Check.yard(yard.toString());
        Check.due("relief of " + yard, Check.men(x, men).relief(), want);
        Check.due("count(5)", x.count(5), 0);
    }

    private static void reliefs() {
        dueRelief(PailRow.NONE, 99);
        dueRelief(2, 61, 61);
        dueRelief(PailRow.NONE, 60, 61);
        dueRelief(3, 22, 22, 22);
        dueRelief(PailRow.NONE, 22, 22, 21);
        dueRelief(4, 3, 3, 3, 3);
        dueRelief(PailRow.NONE, 3, 3, 3, 2);
        dueRelief(PailRow.NONE, 2, 99, 99, 99);
        dueRelief(2, 99, 99, 1);
        dueRelief(4, 3, 3, 3, 3, 1);
        PailRow x = Check.yard(THREE);
        Check.due("relief of none", Check.men(x).relief(), -2);
        Check.due("relief of like ones", Check.men(x, 0, 0).relief(), -2);
        Check.due("relief of no such", Check.men(x, 0, 3).relief(), -2);
    }

    private static void dueHooks(PailRow x, int k, int want, int[] houses, int... at) {
        Check.due("hooks(" + k + ")", Check.men(x, houses).hooks(k), want);
        Check.due("count(5)", x.count(5), 0);
        for (int i = 0; i < at.length; i++) {
            Check.due("hookAt(" + i + ")", x.hookAt(i), at[i]);
        }
        Check.due("hookAt behind", x.hookAt(at.length), PailRow.NONE);
        Check.due("hookAt(-1)", x.hookAt(-1), PailRow.NONE);
    }

    private static void hooks() {
        PailRow x = new PailRow();
        Check.due("hookAt(0) ahead of any", x.hookAt(0), PailRow.NONE);
        dueHooks(x, 1, 30, new int[] {0, 10, 20, 50}, 20);
        dueHooks(x, 2, 10, new int[] {0, 10, 20, 50}, 10, 50);
        dueHooks(x, 3, 10, new int[] {0, 10, 20, 30}, 0, 10, 20);
        dueHooks(x, 1, 10, new int[] {0, 10}, 0);
        dueHooks(x, 1, 0, new int[] {99}, 99);
        dueHooks(x, 6, 5, new int[] {0, 5, 10, 15, 20, 25, 30, 35, 40, 45, 50, 55}, 0, 5, 10, 20, 35, 50);
        dueHooks(x, 0, PailRow.NONE, new int[] {0, 10}, 0, 5, 10, 20, 35, 50);
        dueHooks(x, 3, PailRow.NONE, new int[] {0, 10}, 0, 5, 10, 20, 35, 50);
        dueHooks(x, 7, PailRow.NONE, new int[] {0, 1, 2, 3, 4, 5, 6, 7}, 0, 5, 10, 20, 35, 50);
        dueHooks(x, 1, PailRow.NONE, new int[] {10, 10}, 0, 5, 10, 20, 35, 50);
        dueHooks(x, 1, PailRow.NONE, new int[] {10, 9}, 0, 5, 10, 20, 35, 50);
        dueHooks(x, 1, PailRow.NONE, new int[] {10, 100}, 0, 5, 10, 20, 35, 50);
        dueHooks(x, 1, PailRow.NONE, new int[] {}, 0, 5, 10, 20, 35, 50);
        dueHooks(x, 1, PailRow.NONE, new int[] {0, 1, 2, 3, 4, 5, 6, 7, 8, 9, 10, 11, 12}, 0, 5, 10, 20, 35, 50);
    }
}
