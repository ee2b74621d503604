/** Promises 22 to 28. */
public final class FiresTest {
    public static void main(String[] args) {
        burningOut();
        catching();
        wetting();
        aiming();
        late();
        fireNotAsTold();
        bestAims();
        givingUp();
        enough();
        Check.end();
    }

    private static void dueFire(PailRow x, int minutes, int litres, int aim, int late, int lost, int out) {
        String call = "fire(" + minutes + ", " + litres + ", " + aim + ", " + late + ")";
        Check.due(call, x.fire(minutes, litres, aim, late), lost);
        Check.due("out() behind " + call, x.out(), out);
    }

    private static void dueAt(PailRow x, int cellX, int cellY, int fuel, int burns, int wet) {
        String at = "fireAt(" + cellX + ", " + cellY + ", ";
        Check.due(at + "0)", x.fireAt(cellX, cellY, 0), fuel);
        Check.due(at + "1)", x.fireAt(cellX, cellY, 1), burns);
        Check.due(at + "2)", x.fireAt(cellX, cellY, 2), wet);
    }

    private static void burningOut() {
        PailRow x = Check.yard("cells 9;burn 0 0;");
        Check.due("out() ahead of any", x.out(), PailRow.NONE);
        Check.due("fireAt ahead of any", x.fireAt(0, 0, 0), PailRow.NONE);
        dueFire(x, 0, 999, 1, 0, 0, PailRow.NONE);
        dueAt(x, 0, 0, 9, 1, 0);
        dueFire(x, 8, 0, 1, 0, 8, PailRow.NONE);
        dueAt(x, 0, 0, 1, 1, 0);
        dueFire(x, 9, 0, 1, 0, 9, 9);
        dueAt(x, 0, 0, 0, 0, 0);
        dueFire(x, 60, 0, 1, 0, 9, 9);
        dueFire(x, 1, 89, 1, 0, 1, PailRow.NONE);
        dueFire(x, 1, 90, 1, 0, 0, 1);
        dueFire(x, 3, 45, 1, 0, 1, 2);
        dueAt(x, 0, 0, 8, 0, 90);
        dueFire(x, 3, 45, 100, 0, 1, 2);
        dueAt(x, 0, 0, 8, 0, 135);
        Check.dueYard(x, "", 0, 0);
        Check.due("fireAt of the latest fire", x.fireAt(0, 0, 2), 135);
        dueFire(x, 60, 0, 1, 0, 0, 0);
        Check.due("fireAt of no cells", x.fireAt(0, 0, 0), PailRow.NONE);
        PailRow cold = Check.yard("cells 99;burn 0 0;burn 1 0;");
        dueFire(cold, 1, 0, 0, 0, 2, PailRow.NONE);
        Check.dueYard(cold, "cells 9;", 1, 0);
        dueFire(cold, 5, 7, 1, 0, 0, 0);
        dueAt(cold, 0, 0, 9, 0, 0);
        dueFire(cold, 5, 7, 100, 0, 0, 0);
        dueAt(cold, 0, 0, 9, 0, 35);
    }

    private static void dueCaught(String yard, int... burns) {
        PailRow x = Check.yard(yard);
        x.fire(1, 0, 0, 0);
        for (int i = 0; i < burns.length; i += 3) {
            Check.due(yard + " burns at " + burns[i] + " " + burns[i + 1],
                    x.fireAt(burns[i], burns[i + 1], 1), burns[i + 2]);
        }
    }

    private static void catching() {
        dueCaught("cells 59;burn 0 0;", 0, 0, 1, 1, 0, 1);
        dueCaught("cells 49;burn 0 0;", 0, 0, 1, 1, 0, 0);
        dueCaught("cells 50;burn 0 0;", 1, 0, 0);
        dueCaught("cells 39;burn 0 0;wind east;", 1, 0, 1);
        dueCaught("cells 29;burn 0 0;wind east;", 1, 0, 0);
        dueCaught("cells 99;burn 0 0;wind west;", 1, 0, 0);
        dueCaught("cells 93;burn 1 0;wind west;", 0, 0, 1);
        dueCaught("cells 93;burn 1 0;wind east;", 0, 0, 0);
        dueCaught("cells 39;burn 0 0;wind north;", 1, 0, 0);
        dueCaught("cells 9;cells 3;burn 0 1;wind north;", 0, 0, 1);
        dueCaught("cells 9;cells 9;burn 0 1;wind south;", 0, 0, 0);
        dueCaught("cells 3;cells 9;burn 0 0;wind south;", 0, 1, 1);
        dueCaught("cells 9;cells 9;burn 0 0;wind north;", 0, 1, 0);
        dueCaught("cells 292;burn 0 0;burn 2 0;", 1, 0, 0);
        dueCaught("cells 293;burn 0 0;burn 2 0;", 1, 0, 1);
        dueCaught("cells 999;cells 999;cells 999;burn 1 1;", 0, 0, 0, 1, 0, 1, 2, 0, 0, 0, 1, 1, 2, 1, 1, 1, 2, 1);
        // A cell at a row's end does not heat the next row's beginning.
        dueCaught("cells 99;cells 99;burn 1 0;", 0, 1, 0);
        // Heat is of the fuel before the minute's loss; what has just caught loses nothing yet.
        PailRow x = Check.yard("cells 599;burn 0 0;");
        dueFire(x, 1, 0, 0, 0, 1, PailRow.NONE);
        dueAt(x, 1, 0, 9, 1, 0);
        dueAt(x, 2, 0, 9, 0, 0);
        dueFire(x, 2, 0, 0, 0, 3, PailRow.NONE);
        dueAt(x, 2, 0, 9, 1, 0);
    }

    private static void wetting() {
        PailRow x = Check.yard("cells 59;burn 0 0;");
        x.fire(1, 1, 101, 0);
        dueAt(x, 1, 0, 9, 1, 1);
        x.fire(1, 2, 101, 0);
        dueAt(x, 1, 0, 9, 0, 2);
        // What has gone out can catch again in the same minute, if it is not too wet.
        PailRow two = Check.yard("cells 19;burn 0 0;burn 1 0;");
        x.fire(1, 10, 100, 0);
        two.fire(1, 7, 100, 0);
        dueAt(two, 0, 0, 0, 0, 7);
        PailRow again = Check.yard("cells 19;burn 0 0;burn 1 0;wind west;");
        again.fire(1, 10, 100, 0);
        dueAt(again, 0, 0, 1, 1, 10);
        again.fire(1, 28, 100, 0);
        dueAt(again, 0, 0, 1, 0, 28);
        again.fire(1, 27, 100, 0);
        dueAt(again, 0, 0, 1, 1, 27);
    }

    private static void dueAimed(String yard, int aim, int x, int y) {
        PailRow barn = Check.yard(yard);
        barn.fire(1, 1, aim, 0);
        for (int cy = 0; cy < barn.count(2); cy++) {
            for (int cx = 0; cx < barn.count(1); cx++) {
                Check.due(yard + " aim " + aim + " wets " + cx + " " + cy, barn.fireAt(cx, cy, 2),
                        cx == x && cy == y ? 1 : 0);
            }
        }
    }

    private static void aiming() {
        String four = "cells 3575;cells 5337;burn 0 0;burn 1 0;burn 0 1;burn 1 1;burn 3 0;";
        dueAimed(four, 0, -1, -1);
        dueAimed(four, 1, 1, 0);
        dueAimed(four, 2, 0, 0);
        dueAimed(four, 113, 3, 1);
        // Heat: (2, 0) has 5 and 5, (2, 1) 3, (3, 1) 5.
        dueAimed(four, 3, 2, 0);
        dueAimed(four + "wind east;", 3, 2, 0);
        dueAimed(four + "wind south;", 3, 2, 0);
        dueAimed("cells 393;burn 1 0;", 3, 0, 0);
        dueAimed("cells 393;burn 1 0;wind east;", 3, 2, 0);
        dueAimed("cells 090;burn 1 0;", 3, 1, 0);
        dueAimed("cells 9 ;cells 9;burn 0 1;wind south;", 3, 0, 1);
        dueAimed("cells 99;", 3, -1, -1);
        dueAimed("cells 99;", 1, -1, -1);
        dueAimed("cells 99;", 2, -1, -1);
    }

    private static void late() {
        // The second burns longest; it is seen to be fuller only a minute late.
        PailRow x = Check.yard("cells 905;burn 0 0;burn 2 0;");
        x.fire(2, 50, 1, 0);
        dueAt(x, 0, 0, 8, 0, 100);
        dueAt(x, 2, 0, 3, 1, 0);
        x.fire(3, 50, 1, 0);
        dueAt(x, 2, 0, 3, 0, 50);
        x.fire(3, 50, 1, 1);
        dueAt(x, 0, 0, 8, 0, 150);
        dueAt(x, 2, 0, 2, 1, 0);
        x.fire(4, 50, 1, 1);
        dueAt(x, 2, 0, 2, 0, 50);
        x.fire(20, 1, 1, 20);
        dueAt(x, 0, 0, 0, 0, 20);
        dueAt(x, 2, 0, 0, 0, 0);
    }

    private static void fireNotAsTold() {
        PailRow x = Check.yard("cells 99;burn 0 0;");
        dueFire(x, 2, 90, 1, 0, 0, 1);
        int[][] bad = {{-1, 0, 0, 0}, {61, 0, 0, 0}, {1, -1, 0, 0}, {1, 1000, 0, 0}, {1, 1, -1, 0}, {1, 1, 4, 0},
            {1, 1, 99, 0}, {1, 1, 102, 0}, {1, 1, 110, 0}, {1, 1, 1000, 0}, {1, 1, Integer.MAX_VALUE, 0},
            {1, 1, Integer.MIN_VALUE, 0}, {1, 1, 1, -1}, {1, 1, 1, 21}};
        for (int[] call : bad) {
            dueFire(x, call[0], call[1], call[2], call[3], PailRow.NONE, 1);
        }
        dueAt(x, 0, 0, 9, 0, 90);
        Check.due("fireAt what", x.fireAt(0, 0, 3), PailRow.NONE);
        Check.due("fireAt what", x.fireAt(0, 0, -1), PailRow.NONE);
        Check.due("fireAt x", x.fireAt(2, 0, 0), PailRow.NONE);
        Check.due("fireAt x", x.fireAt(-1, 0, 0), PailRow.NONE);
        Check.due("fireAt y", x.fireAt(0, 1, 0), PailRow.NONE);
        Check.due("fireAt y", x.fireAt(0, -1, 0), PailRow.NONE);
        dueFire(x, 1, 999, 101, 20, 1, PailRow.NONE);
    }

    private static void dueAims(PailRow x, int minutes, int litres, int lost, int... aims) {
        Check.due("aims(" + minutes + ", " + litres + ")", x.aims(minutes, litres), lost);
        for (int i = 0; i < aims.length; i++) {
            Check.due("aimAt(" + i + ")", x.aimAt(i), aims[i]);
        }
        Check.due("aimAt behind", x.aimAt(aims.length), PailRow.NONE);
        Check.due("aimAt(-1)", x.aimAt(-1), PailRow.NONE);
    }

    private static void bestAims() {
        PailRow x = Check.yard("cells 309;burn 0 0;burn 2 0;");
        Check.due("aimAt(0) ahead of any", x.aimAt(0), PailRow.NONE);
        dueAims(x, 1, 90, 3, 102);
        // Both orders lose one: the first of like ones.
        dueAims(x, 2, 90, 1, 100, 102);
        // Nothing burns in the third minute: nowhere.
        dueAims(x, 3, 90, 1, 100, 102, 0);
        // No choice helps: the first cell that burns.
        dueAims(x, 1, 0, 12, 100);
        dueAims(x, 0, 0, PailRow.NONE, 100);
        dueAims(x, 4, 0, PailRow.NONE, 100);
        dueAims(x, 1, -1, PailRow.NONE, 100);
        dueAims(x, 1, 1000, PailRow.NONE, 100);
        Check.dueYard(x, "", 0, 0);
        dueAims(x, 1, 0, PailRow.NONE, 100);
        dueAims(Check.yard("cells 99;"), 2, 50, 0, 0, 0);
        // The ninth cell that burns is not looked at.
        PailRow nine = Check.yard("cells 10101010;cells 00000000;cells 10101010;cells 00000000;cells 90000000;"
                + "burn 0 0;burn 2 0;burn 4 0;burn 6 0;burn 0 2;burn 2 2;burn 4 2;burn 6 2;burn 0 4;");
        dueAims(nine, 1, 90, 16, 100);
        // Seventeen cells catch one behind the other, and burn for 25 minutes: 20 count in all.
        PailRow chain = Check.yard("cells 99999999;cells 00000009;cells 99999999;burn 0 0;");
        Check.due("25 minutes", chain.fire(25, 0, 0, 0), 17 * 9);
        Check.due("20 minutes", chain.fire(20, 0, 0, 0), 17 * 9 - 1 - 2 - 3 - 4 - 5);
        Check.due("20 minutes", chain.aims(1, 0), chain.fire(20, 0, 0, 0));
        Check.due("20 minutes", chain.aims(3, 0), chain.fire(20, 0, 0, 0));
    }

    private static void givingUp() {
        Check.due("give of two", Check.yard("cells 99;burn 0 0;").give(0), 0);
        Check.due("give: none is better", Check.yard("cells 9;burn 0 0;").give(0), PailRow.NONE);
        Check.due("give: water is better", Check.yard("cells 99;burn 0 0;").give(90), PailRow.NONE);
        Check.due("give: the gap", Check.yard("cells 919999;burn 0 0;burn 1 0;").give(0), PailRow.NONE);
        Check.due("give the middle", Check.yard("cells 93999;burn 0 0;wind east;").give(50), 1);
        Check.due("give of like ones", Check.yard("cells 99099;burn 0 0;burn 4 0;").give(0), 0);
        Check.due("give of like ones", Check.yard("cells 99599;burn 2 0;").give(0), 2);
        Check.due("give of none burning", Check.yard("cells 9;").give(0), PailRow.NONE);
        Check.due("give(-1)", Check.yard("cells 99;burn 0 0;").give(-1), PailRow.NONE);
        Check.due("give(1000)", Check.yard("cells 99;burn 0 0;").give(1000), PailRow.NONE);
        Check.due("give without cells", new PailRow().give(5), PailRow.NONE);
        PailRow x = Check.yard("cells 99;burn 0 0;");
        x.fire(1, 0, 0, 0);
        x.give(0);
        Check.due("give leaves the fire", x.fireAt(0, 0, 0), 8);
        Check.due("give leaves the yard", x.cell(0, 0, 0), 9);
    }

    private static void enough() {
        PailRow x = Check.yard("cells 9;burn 0 0;");
        Check.due("enough(1, 1)", x.enough(1, 1), 90);
        Check.due("enough(1, 2)", x.enough(1, 2), 40);
        Check.due("enough(2, 2)", x.enough(2, 2), 40);
        Check.due("enough(3, 2)", x.enough(3, 2), 40);
        Check.due("enough(100, 2)", x.enough(100, 2), 40);
        Check.due("enough(1, 8)", x.enough(1, 8), 3);
        Check.due("enough(1, 9)", x.enough(1, 9), 0);
        Check.due("enough(0, 8)", x.enough(0, 8), PailRow.NONE);
        Check.due("enough(0, 60)", x.enough(0, 60), 0);
        Check.due("enough(1, 0)", x.enough(1, 0), -2);
        Check.due("enough(1, 61)", x.enough(1, 61), -2);
        Check.due("enough(4, 1)", x.enough(4, 1), -2);
        Check.due("enough(-1, 1)", x.enough(-1, 1), -2);
        Check.due("enough(101, 1)", x.enough(101, 1), -2);
        Check.due("enough: 200 are too few", Check.yard("cells 99;burn 0 0;burn 1 0;").enough(1, 1), PailRow.NONE);
        Check.due("enough of none burning", Check.yard("cells 9;").enough(1, 1), 0);
    }
}
