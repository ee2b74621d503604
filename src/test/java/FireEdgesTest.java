/** Promises 22 to 28 at their edges: fires, where to throw, what to give up, how much is enough. */
public final class FireEdgesTest {
    private static final String[] WINDS = {"north", "east", "south", "west"};
    private static final int[] WIND_X = {0, 1, 0, -1};
    private static final int[] WIND_Y = {-1, 0, 1, 0};

    public static void main(String[] args) {
        fireAsTold();
        aimsAsTold();
        goingOut();
        wetAddsUp();
        catching();
        heatAgainstWet();
        winds();
        fourNeighbours();
        whatComesFirst();
        burningOut();
        aimNowhere();
        aimMostAndLeast();
        aimHottest();
        aimAtCell();
        seenLate();
        hottestSeenLate();
        fireAts();
        fireAtOfTheLatest();
        outs();
        bestAimsAsTold();
        firstEight();
        twentyMinutes();
        aimsOfLikeOnes();
        giveAsTold();
        giveUp();
        giveThirtyMinutes();
        enoughAsTold();
        enoughIsLeast();
        Check.end();
    }

    private static void dueWet(PailRow x, String of, int... wet) {
        for (int i = 0; i < wet.length; i++) {
            Check.due("WET of CELL " + i + " " + of, x.fireAt(i, 0, 2), wet[i]);
        }
    }

    private static void fireAsTold() {
        Check.promise(22);
        PailRow x = Check.yard("cells 99;burn 0 0;");
        Check.dueRange("fire(.., 5, 1, 0)", 0, 60, PailRow.NONE, minutes -> x.fire(minutes, 5, 1, 0));
        Check.dueRange("fire(5, .., 1, 0)", 0, 999, PailRow.NONE, litres -> x.fire(5, litres, 1, 0));
        Check.dueRange("fire(5, 5, 1, ..)", 0, 20, PailRow.NONE, late -> x.fire(5, 5, 1, late));
        Check.due("fire(60, 999, 3, 20)", x.fire(60, 999, 3, 20) == PailRow.NONE, false);
        Check.due("fire(0, 0, 0, 0)", x.fire(0, 0, 0, 0), 0);
        PailRow none = new PailRow();
        Check.dueRange("fire(.., 5, 1, 0) of no CELLS", 0, 60, PailRow.NONE, minutes -> none.fire(minutes, 5, 1, 0));
        Check.due("fire(60, 999, 3, 20) of no CELLS", none.fire(60, 999, 3, 20), 0);
    }

    private static boolean aimTold(int aim, int columns, int rows) {
        for (int y = 0; y < rows; y++) {
            for (int c = 0; c < columns; c++) {
                if (aim == 100 + 10 * y + c) {
                    return true;
                }
            }
        }
        return aim == 0 || aim == 1 || aim == 2 || aim == 3;
    }

    /** AIMS: 0 to 3, and each CELL that is told; of fire, enough and a PLAN. */
    private static void aimsAsTold() {
        int[][] sizes = {{0, 0}, {1, 1}, {3, 2}, {8, 1}, {1, 8}, {8, 8}};
        for (int[] size : sizes) {
            PailRow x = Check.yard(("cells " + "99999999".substring(0, size[0]) + ";").repeat(size[1]));
            String of = " of " + size[0] + " columns, " + size[1] + " rows, is taken";
            for (int aim = -12; aim <= 1000; aim++) {
                boolean told = aimTold(aim, size[0], size[1]);
                Check.promise(22);
                Check.due("AIM " + aim + of, x.fire(1, 1, aim, 0) != PailRow.NONE, told);
                Check.promise(28);
                Check.due("AIM " + aim + of, x.enough(aim, 1) != -2, told);
                if (aim >= 0 && aim <= 200) {
                    Check.promise(29);
                    Check.duePlan(x, "at 0 aim " + aim + ";", told ? 1 : -10, told ? 0 : 2);
                }
            }
            for (int aim : new int[] {Integer.MIN_VALUE, -100, 65536, 65636, Integer.MAX_VALUE}) {
                Check.promise(22);
                Check.due("AIM " + aim + of, x.fire(1, 1, aim, 0) != PailRow.NONE, false);
                Check.promise(28);
                Check.due("AIM " + aim + of, x.enough(aim, 1) != -2, false);
            }
        }
    }

    private static void dueFire(PailRow x, int minutes, int litres, int aim, int lost, int out) {
        String call = "fire(" + minutes + ", " + litres + ", " + aim + ", 0)";
        Check.promise(22);
        Check.due(call, x.fire(minutes, litres, aim, 0), lost);
        Check.promise(24);
        Check.due("out() behind " + call, x.out(), out);
    }

    /** It goes out, if WET is 10 times its FUEL or more. */
    private static void goingOut() {
        for (int fuel = 1; fuel <= 9; fuel++) {
            PailRow x = Check.yard("cells " + fuel + ";burn 0 0;");
            dueFire(x, 1, 10 * fuel - 1, 1, 1, fuel == 1 ? 1 : PailRow.NONE);
            Check.promise(23);
            Check.due("FUEL", x.fireAt(0, 0, 0), fuel - 1);
            dueFire(x, 1, 10 * fuel, 1, 0, 1);
            Check.promise(23);
            Check.due("FUEL", x.fireAt(0, 0, 0), fuel);
            Check.due("burns", x.fireAt(0, 0, 1), 0);
            dueFire(x, 1, 10 * fuel + 1, 1, 0, 1);
        }
    }

    private static void wetAddsUp() {
        PailRow x = Check.yard("cells 9;burn 0 0;");
        dueFire(x, 2, 40, 1, 1, 2);
        dueFire(x, 2, 39, 1, 2, PailRow.NONE);
        dueFire(x, 3, 39, 1, 2, 3);
        dueFire(x, 9, 1, 1, 9, 9);
        dueFire(x, 8, 2, 1, 8, PailRow.NONE);
        // WET 24 against FUEL 2 in the eighth minute.
        dueFire(x, 8, 3, 1, 7, 8);
        Check.promise(23);
        x.fire(60, 999, 100, 0);
        Check.due("WET of sixty minutes", x.fireAt(0, 0, 2), 60 * 999);
    }

    private static void dueCaught(String yard, int cellX, int cellY, boolean burns) {
        PailRow x = Check.yard(yard);
        x.fire(1, 0, 0, 0);
        Check.due(yard + " burns at " + cellX + " " + cellY, x.fireAt(cellX, cellY, 1), burns ? 1 : 0);
    }

    /** HEAT of 5: 4 is too little. */
    private static void catching() {
        Check.promise(22);
        for (int fuel = 1; fuel <= 9; fuel++) {
            dueCaught("cells " + fuel + "9;burn 0 0;", 1, 0, fuel >= 5);
            dueCaught("cells 9" + fuel + ";burn 0 0;", 1, 0, true);
        }
        dueCaught("cells 90;burn 0 0;", 1, 0, false);
        dueCaught("cells 292;burn 0 0;burn 2 0;", 1, 0, false);
        dueCaught("cells 293;burn 0 0;burn 2 0;", 1, 0, true);
        dueCaught("cells 010;cells 191;cells 010;burn 1 0;burn 0 1;burn 2 1;burn 1 2;", 1, 1, false);
        dueCaught("cells 010;cells 191;cells 020;burn 1 0;burn 0 1;burn 2 1;burn 1 2;", 1, 1, true);
        // No neighbours: across a corner, two away, from a row's end to the next one's beginning.
        dueCaught("cells 90;cells 09;burn 0 0;", 1, 1, false);
        dueCaught("cells 909;burn 0 0;", 2, 0, false);
        dueCaught("cells 09;cells 90;burn 1 0;", 0, 1, false);
        dueCaught("cells 09;cells 90;burn 0 1;", 1, 0, false);
    }

    /** HEAT of 5 and half the WET, cut, or more. */
    private static void heatAgainstWet() {
        for (int fuel = 5; fuel <= 9; fuel++) {
            PailRow x = Check.yard("cells " + fuel + "9;burn 0 0;");
            // The most WET that still catches is odd.
            int most = 2 * (fuel - 5) + 1;
            for (int wet = 0; wet <= most + 2; wet++) {
                x.fire(1, wet, 101, 0);
                Check.promise(22);
                Check.due("WET " + wet + " beside FUEL " + fuel + " burns", x.fireAt(1, 0, 1), wet <= most ? 1 : 0);
                Check.promise(23);
                Check.due("WET", x.fireAt(1, 0, 2), wet);
            }
        }
        // What has gone out catches again in the same minute, if it is not too wet: 18 against 5 and 13.
        PailRow again = Check.yard("cells 19;burn 0 0;burn 1 0;wind west;");
        again.fire(1, 27, 100, 0);
        Check.due("WET 27, HEAT 18", again.fireAt(0, 0, 1), 1);
        Check.due("it loses nothing then", again.fireAt(0, 0, 0), 1);
        again.fire(1, 28, 100, 0);
        Check.due("WET 28, HEAT 18", again.fireAt(0, 0, 1), 0);
    }

    /** Twice to where the wind blows, none the other way, once to both sides. */
    private static void winds() {
        Check.promise(22);
        for (int w = 0; w < 5; w++) {
            for (int side = 0; side < 4; side++) {
                boolean still = w == 4;
                int times = still ? 1 : WIND_X[w] == WIND_X[side] && WIND_Y[w] == WIND_Y[side] ? 2
                        : WIND_X[w] == -WIND_X[side] && WIND_Y[w] == -WIND_Y[side] ? 0 : 1;
                for (int fuel = 1; fuel <= 9; fuel++) {
                    String barn = "cells 999;cells 9" + fuel + "9;cells 999;burn 1 1;";
                    dueCaught(barn + (still ? "" : "wind " + WINDS[w] + ";"), 1 + WIND_X[side], 1 + WIND_Y[side],
                            times * fuel >= 5);
                }
            }
        }
        dueCaught("cells 29;burn 0 0;wind east;", 1, 0, false);
        dueCaught("cells 39;burn 0 0;wind east;", 1, 0, true);
        dueCaught("cells 99;burn 0 0;wind west;", 1, 0, false);
        // None is not less than none: 6 from the west, nothing from the east.
        dueCaught("cells 399;burn 0 0;burn 2 0;wind east;", 1, 0, true);
        dueCaught("cells 299;burn 0 0;burn 2 0;wind east;", 1, 0, false);
        dueCaught("cells 49;burn 0 0;wind south;", 1, 0, false);
        dueCaught("cells 59;burn 0 0;wind south;", 1, 0, true);
    }

    private static void fourNeighbours() {
        Check.promise(22);
        PailRow x = Check.yard("cells 999;cells 999;cells 999;burn 1 1;");
        x.fire(1, 0, 0, 0);
        int[] burns = {0, 1, 0, 1, 1, 1, 0, 1, 0};
        for (int i = 0; i < burns.length; i++) {
            Check.due("CELL " + i + " burns", x.fireAt(i % 3, i / 3, 1), burns[i]);
        }
        String eight = "cells 99999999;".repeat(8);
        int[][] corners = {{0, 0, 2}, {7, 0, 2}, {0, 7, 2}, {7, 7, 2}, {3, 0, 3}, {0, 3, 3}, {7, 3, 3}, {3, 7, 3},
            {3, 3, 4}};
        for (int[] corner : corners) {
            PailRow barn = Check.yard(eight + "burn " + corner[0] + " " + corner[1] + ";");
            barn.fire(1, 0, 0, 0);
            int burning = 0;
            for (int i = 0; i < 64; i++) {
                burning += barn.fireAt(i % 8, i / 8, 1);
            }
            Check.due("how many burn around " + corner[0] + " " + corner[1], burning, 1 + corner[2]);
        }
    }

    /** First water, then HEAT, then the loss, then what catches. */
    private static void whatComesFirst() {
        Check.promise(22);
        PailRow x = Check.yard("cells 59;burn 0 0;");
        x.fire(1, 50, 100, 0);
        Check.due("what goes out gives no HEAT", x.fireAt(1, 0, 1), 0);
        x.fire(1, 49, 100, 0);
        Check.due("HEAT is of the FUEL ahead of the loss", x.fireAt(1, 0, 1), 1);
        Check.due("what has just caught loses nothing", x.fireAt(1, 0, 0), 9);
        Check.due("LOST", x.fire(1, 49, 100, 0), 1);
        PailRow three = Check.yard("cells 599;burn 0 0;");
        three.fire(1, 0, 0, 0);
        Check.due("what has just caught gives no HEAT", three.fireAt(2, 0, 1), 0);
        Check.due("LOST of two minutes", three.fire(2, 0, 0, 0), 3);
        Check.due("the third burns behind the second minute", three.fireAt(2, 0, 1), 1);
    }

    private static void burningOut() {
        for (int fuel = 1; fuel <= 9; fuel++) {
            PailRow x = Check.yard("cells " + fuel + ";burn 0 0;");
            dueFire(x, fuel - 1, 0, 0, fuel - 1, PailRow.NONE);
            Check.promise(23);
            Check.due("1 is left", x.fireAt(0, 0, 0), 1);
            Check.due("it burns", x.fireAt(0, 0, 1), 1);
            dueFire(x, fuel, 0, 0, fuel, fuel);
            Check.promise(23);
            Check.due("nothing is left", x.fireAt(0, 0, 0), 0);
            Check.due("it burns no more", x.fireAt(0, 0, 1), 0);
            dueFire(x, 60, 0, 0, fuel, fuel);
        }
        // What has burnt down catches no more.
        PailRow x = Check.yard("cells 19;burn 0 0;burn 1 0;");
        dueFire(x, 60, 0, 0, 10, 9);
    }

    private static void aimNowhere() {
        Check.promise(22);
        PailRow x = Check.yard("cells 99;burn 0 0;");
        Check.due("AIM 0 throws nothing", x.fire(9, 999, 0, 0), x.fire(9, 0, 1, 0));
        x.fire(9, 999, 0, 0);
        dueWet(x, "by AIM 0", 0, 0);
        PailRow cold = Check.yard("cells 99;");
        for (int aim = 0; aim <= 3; aim++) {
            cold.fire(9, 5, aim, 0);
            dueWet(cold, "by AIM " + aim + " of nothing that burns", 0, 0);
        }
        // Nothing burns any more: nothing is thrown.
        PailRow one = Check.yard("cells 1;burn 0 0;");
        one.fire(60, 1, 1, 0);
        dueWet(one, "by AIM 1 of one that has burnt down", 1);
    }

    private static void dueAimed(String cells, int aim, int target) {
        PailRow x = Check.yard(cells);
        x.fire(1, 1, aim, 0);
        int columns = x.count(1);
        for (int i = 0; i < columns * x.count(2); i++) {
            int wet = i == target ? 1 : 0;
            Check.due(cells + " AIM " + aim + " wets CELL " + i, x.fireAt(i % columns, i / columns, 2), wet);
        }
    }

    private static void aimMostAndLeast() {
        Check.promise(22);
        String burn = "burn 0 0;burn 1 0;burn 0 1;burn 1 1;";
        dueAimed("cells 55;cells 55;" + burn, 1, 0);
        dueAimed("cells 55;cells 55;" + burn, 2, 0);
        dueAimed("cells 56;cells 66;" + burn, 1, 1);
        dueAimed("cells 65;cells 55;" + burn, 2, 1);
        dueAimed("cells 55;cells 65;" + burn, 1, 2);
        dueAimed("cells 66;cells 56;" + burn, 2, 2);
        dueAimed("cells 55;cells 56;" + burn, 1, 3);
        dueAimed("cells 66;cells 65;" + burn, 2, 3);
        // Only what burns.
        dueAimed("cells 951;burn 1 0;", 1, 1);
        dueAimed("cells 951;burn 1 0;", 2, 1);
        dueAimed("cells 0000001;burn 6 0;", 1, 6);
        dueAimed("cells 0000001;burn 6 0;", 2, 6);
    }

    private static void aimHottest() {
        Check.promise(22);
        // HEAT of 1 is above 0.
        dueAimed("cells 19;burn 0 0;", 3, 1);
        dueAimed("cells 91;burn 1 0;", 3, 0);
        // None has HEAT: as AIM 1.
        dueAimed("cells 109;burn 0 0;", 3, 0);
        dueAimed("cells 19;burn 0 0;wind west;", 3, 0);
        dueAimed("cells 109;burn 0 0;burn 2 0;", 3, 2);
        // What burns and what has no FUEL is not looked at.
        dueAimed("cells 999;burn 0 0;burn 1 0;", 3, 2);
        dueAimed("cells 0919;burn 1 0;", 3, 2);
        // Of like ones the first; one more is more.
        dueAimed("cells 191;burn 1 0;", 3, 0);
        dueAimed("cells 9395;burn 1 0;burn 3 0;", 3, 2);
        dueAimed("cells 99;cells 91;burn 0 0;", 3, 1);
        dueAimed("cells 99;cells 91;burn 0 0;wind south;", 3, 2);
        dueAimed("cells 99;cells 91;burn 0 0;wind east;", 3, 1);
        dueAimed("cells 911;cells 119;burn 0 0;burn 2 1;", 3, 1);
    }

    private static void aimAtCell() {
        Check.promise(22);
        dueAimed("cells 99;cells 90;", 100, 0);
        dueAimed("cells 99;cells 90;", 101, 1);
        dueAimed("cells 99;cells 90;", 110, 2);
        dueAimed("cells 99;cells 90;", 111, 3);
        dueAimed("cells 99999999;".repeat(8), 177, 63);
        dueAimed("cells 99999999;".repeat(8), 107, 7);
        dueAimed("cells 99999999;".repeat(8), 170, 56);
        PailRow x = Check.yard("cells 9;burn 0 0;");
        x.fire(15, 1, 100, 0);
        dueWet(x, "that has burnt down", 15);
        x.fire(15, 1, 100, 20);
        dueWet(x, "whatever is seen", 15);
    }

    /** At minute m by what burned at m less L: the first burns at the beginning, the second is fuller from then on. */
    private static void seenLate() {
        Check.promise(22);
        PailRow x = Check.yard("cells 59;burn 0 0;");
        for (int late = 0; late <= 20; late++) {
            x.fire(late + 1, 1, 1, late);
            dueWet(x, "in the last minute by the beginning, late " + late, late + 1, 0);
            x.fire(late + 2, 1, 1, late);
            dueWet(x, "in the first minute by minute 1, late " + late, late + 1, 1);
        }
        // FUEL of then: 9 7 burn at first, 7 and 9 less a minute's loss later.
        PailRow two = Check.yard("cells 907;burn 0 0;burn 2 0;");
        two.fire(3, 40, 1, 0);
        dueWet(two, "late 0", 80, 0, 40);
        two.fire(3, 40, 1, 1);
        dueWet(two, "late 1", 120, 0, 0);
        two.fire(4, 40, 1, 1);
        dueWet(two, "late 1", 120, 0, 40);
    }

    private static void hottestSeenLate() {
        Check.promise(22);
        PailRow x = Check.yard("cells 593;burn 0 0;");
        x.fire(2, 1, 3, 0);
        dueWet(x, "by HEAT now", 0, 1, 1);
        x.fire(2, 1, 3, 1);
        dueWet(x, "by HEAT of the beginning", 0, 2, 0);
        x.fire(3, 1, 3, 1);
        dueWet(x, "by HEAT of a minute ago", 0, 2, 1);
        x.fire(20, 1, 3, 20);
        dueWet(x, "by HEAT of the beginning", 0, 20, 0);
    }

    private static void fireAts() {
        Check.promise(23);
        PailRow x = Check.yard("cells 123;cells 456;burn 2 1;");
        x.fire(0, 5, 1, 0);
        Check.dueRange("fireAt(.., 1, 0)", 0, 2, PailRow.NONE, c -> x.fireAt(c, 1, 0));
        Check.dueRange("fireAt(2, .., 0)", 0, 1, PailRow.NONE, y -> x.fireAt(2, y, 0));
        Check.dueRange("fireAt(2, 1, ..)", 0, 2, PailRow.NONE, what -> x.fireAt(2, 1, what));
        Check.due("fire(0, ..) leaves FUEL", x.fireAt(2, 1, 0), 6);
        Check.due("fire(0, ..) leaves what burns", x.fireAt(2, 1, 1), 1);
        Check.due("fire(0, ..) throws nothing", x.fireAt(2, 1, 2), 0);
        PailRow eight = Check.yard("cells 99999999;".repeat(8));
        eight.fire(1, 1, 177, 0);
        Check.dueRange("fireAt(.., 7, 2)", 0, 7, PailRow.NONE, c -> eight.fireAt(c, 7, 2));
        Check.dueRange("fireAt(7, .., 2)", 0, 7, PailRow.NONE, y -> eight.fireAt(7, y, 2));
        Check.due("fireAt(7, 7, 2)", eight.fireAt(7, 7, 2), 1);
        PailRow none = new PailRow();
        Check.due("fire of no CELLS", none.fire(1, 1, 1, 0), 0);
        Check.due("fireAt(0, 0, 0) of no CELLS", none.fireAt(0, 0, 0), PailRow.NONE);
    }

    private static void fireAtOfTheLatest() {
        Check.promise(23);
        PailRow x = Check.yard("cells 95;burn 0 0;");
        x.fire(2, 3, 1, 0);
        int[] due = {7, 1, 6, 4, 1, 0};
        Check.Call[] others = {() -> x.fire(-1, 0, 0, 0), () -> x.fire(61, 0, 0, 0), () -> x.fire(1, 1000, 0, 0),
            () -> x.fire(1, 1, 4, 0), () -> x.fire(1, 1, 1, 21), () -> x.aims(3, 50), () -> x.give(20),
            () -> x.enough(1, 5), () -> x.night(59, 1), () -> Check.tape(x, "cells 123;cells 456;").yard(),
            () -> x.night(3, 1), () -> Check.tape(x, "").yard()};
        for (int i = 0; i < others.length; i++) {
            others[i].answer();
            Check.promise(23);
            for (int what = 0; what <= 2; what++) {
                Check.due("fireAt(0, 0, " + what + ") behind other call " + i, x.fireAt(0, 0, what), due[what]);
            }
            Check.due("fireAt(1, 0, 0) behind other call " + i, x.fireAt(1, 0, 0), 4);
            Check.due("fireAt(2, 0, 0): no such one of that YARD", x.fireAt(2, 0, 0), PailRow.NONE);
            Check.due("fireAt(0, 1, 0): no such one of that YARD", x.fireAt(0, 1, 0), PailRow.NONE);
            Check.promise(24);
            Check.due("out() behind other call " + i, x.out(), PailRow.NONE);
        }
    }

    private static void outs() {
        PailRow x = Check.yard("cells 9;burn 0 0;");
        dueFire(x, 0, 0, 0, 0, PailRow.NONE);
        dueFire(x, 8, 0, 0, 8, PailRow.NONE);
        dueFire(x, 9, 0, 0, 9, 9);
        dueFire(x, 10, 0, 0, 9, 9);
        dueFire(x, 60, 0, 0, 9, 9);
        dueFire(x, 1, 90, 1, 0, 1);
        dueFire(x, 60, 90, 1, 0, 1);
        PailRow cold = Check.yard("cells 9;");
        dueFire(cold, 0, 0, 0, 0, 0);
        dueFire(cold, 60, 9, 100, 0, 0);
        PailRow none = new PailRow();
        dueFire(none, 0, 0, 0, 0, 0);
        dueFire(none, 60, 9, 1, 0, 0);
        PailRow used = Check.yard("cells 99;burn 0 0;burn 1 0;");
        dueFire(used, 1, 0, 0, 2, PailRow.NONE);
        Check.dueYard(used, "cells 9;", 1, 0);
        dueFire(used, 0, 0, 0, 0, 0);
        Check.promise(24);
        Check.due("a refused fire", x.fire(61, 0, 0, 0), PailRow.NONE);
        Check.due("out() of the latest that was not NONE", x.out(), 1);
    }

    private static void bestAimsAsTold() {
        PailRow x = Check.yard("cells 99;burn 0 0;");
        Check.promise(25);
        Check.dueRange("aims(.., 5)", 1, 3, PailRow.NONE, minutes -> x.aims(minutes, 5));
        Check.dueRange("aims(1, ..)", 0, 999, PailRow.NONE, litres -> x.aims(1, litres));
        for (int minutes = 1; minutes <= 3; minutes++) {
            x.aims(minutes, 5);
            Check.promise(26);
            Check.dueRange("aimAt of aims(" + minutes + ", 5)", 0, minutes - 1, PailRow.NONE, x::aimAt);
        }
        x.aims(2, 90);
        Check.Call[] refused = {() -> x.aims(0, 5), () -> x.aims(4, 5), () -> x.aims(1, -1), () -> x.aims(1, 1000),
            () -> x.fire(5, 5, 1, 0), () -> x.give(5), () -> x.enough(1, 5), () -> x.night(5, 1),
            () -> Check.tape(x, "").yard(), () -> x.aims(1, 5)};
        for (int i = 0; i < refused.length; i++) {
            refused[i].answer();
            Check.promise(26);
            Check.due("aimAt(0) behind other call " + i, x.aimAt(0), 100);
            Check.due("aimAt(1) behind other call " + i, x.aimAt(1), 0);
            Check.due("aimAt(2) behind other call " + i, x.aimAt(2), PailRow.NONE);
        }
        Check.promise(25);
        Check.due("aims(1, 5) of no CELLS", new PailRow().aims(1, 5), PailRow.NONE);
        PailRow cold = Check.yard("cells 9;");
        Check.due("aims(3, 5) of nothing that burns", cold.aims(3, 5), 0);
        Check.promise(26);
        for (int i = 0; i < 3; i++) {
            Check.due("nowhere: aimAt(" + i + ")", cold.aimAt(i), 0);
        }
    }

    /** One of 9 and eight of 1 burn: the place of the 9 among the nine makes it one of the first eight, or not. */
    private static void firstEight() {
        for (int nine = 0; nine < 9; nine++) {
            StringBuilder yard = new StringBuilder();
            for (int y = 0; y < 5; y++) {
                yard.append("cells ");
                for (int c = 0; c < 8; c++) {
                    int n = c % 2 == 0 && y % 2 == 0 ? y / 2 * 4 + c / 2 : 99;
                    yard.append(n == nine ? 9 : n < 9 ? 1 : 0);
                }
                yard.append(';');
            }
            for (int n = 0; n < 9; n++) {
                yard.append("burn ").append(n % 4 * 2).append(' ').append(n / 4 * 2).append(';');
            }
            PailRow x = Check.yard(yard.toString());
            int at = 100 + nine / 4 * 20 + nine % 4 * 2;
            Check.promise(25);
            Check.due("aims(1, 90), the 9 behind " + nine, x.aims(1, 90), nine < 8 ? 8 : 16);
            Check.promise(26);
            Check.due("aimAt(0), the 9 behind " + nine, x.aimAt(0), nine < 8 ? at : 100);
            // In the second minute it alone burns, and has 8: one of 1 is saved in the first.
            Check.promise(25);
            Check.due("aims(2, 80), the 9 behind " + nine, x.aims(2, 80), 8);
            Check.promise(26);
            Check.due("aimAt(0)", x.aimAt(0), nine == 0 ? 102 : 100);
            Check.due("aimAt(1)", x.aimAt(1), at);
        }
    }

    /** Seventeen CELLS catch one behind the other and burn for 25 minutes. */
    private static void twentyMinutes() {
        Check.promise(25);
        PailRow x = Check.yard("cells 99999999;cells 00000009;cells 99999999;burn 0 0;");
        int lost = x.fire(20, 0, 0, 0);
        Check.due("19 minutes lose less", x.fire(19, 0, 0, 0) < lost, true);
        Check.due("21 minutes lose more", x.fire(21, 0, 0, 0) > lost, true);
        for (int minutes = 1; minutes <= 3; minutes++) {
            Check.due("aims(" + minutes + ", 0): till 20 minutes are over", x.aims(minutes, 0), lost);
        }
    }

    private static void dueAims(String yard, int minutes, int litres, int lost, int... aims) {
        PailRow x = Check.yard(yard);
        String of = "(" + minutes + ", " + litres + ") of " + yard;
        Check.promise(25);
        Check.due("aims" + of, x.aims(minutes, litres), lost);
        Check.promise(26);
        for (int i = 0; i < minutes; i++) {
            Check.due("aimAt(" + i + ") of aims" + of, x.aimAt(i), aims[i]);
        }
    }

    /** Minute by minute, row by row, nowhere behind all. */
    private static void aimsOfLikeOnes() {
        String four = "cells 303;cells 000;cells 303;burn 0 0;burn 2 0;burn 0 2;burn 2 2;";
        dueAims(four, 1, 30, 9, 100);
        dueAims(four, 2, 30, 9 - 2, 100, 102);
        dueAims(four, 3, 30, 9 - 2 - 1, 100, 102, 120);
        dueAims(four, 1, 29, 12, 100);
        dueAims(four, 1, 0, 12, 100);
        dueAims(four, 3, 0, 12, 100, 100, 100);
        dueAims("cells 9;burn 0 0;", 2, 89, 1, 100, 100);
        dueAims("cells 9;burn 0 0;", 2, 90, 0, 100, 0);
        dueAims("cells 1;burn 0 0;", 3, 5, 1, 100, 0, 0);
        dueAims("cells 308;burn 0 0;burn 2 0;", 1, 80, 3, 102);
        dueAims("cells 308;burn 0 0;burn 2 0;", 1, 79, 8, 100);
        dueAims("cells 00000000;".repeat(7) + "cells 00000005;burn 7 7;", 1, 50, 0, 177);
    }

    private static void giveAsTold() {
        Check.promise(27);
        PailRow x = Check.yard("cells 99;burn 0 0;");
        Check.due("give(0)", x.give(0), 0);
        Check.due("give(999): nothing is lost without", x.give(999), PailRow.NONE);
        // Eight burn, and one goes out in a minute: with any litres a column is better.
        PailRow many = Check.yard("cells 99999999;".repeat(8) + "burn 0 0;burn 0 1;burn 0 2;burn 0 3;burn 0 4;burn 0 5;"
                + "burn 0 6;burn 0 7;");
        Check.dueRange("give", 0, 999, PailRow.NONE, many::give);
        Check.due("give(0) of no CELLS", new PailRow().give(0), PailRow.NONE);
        Check.due("give(999) of no CELLS", new PailRow().give(999), PailRow.NONE);
        Check.due("give(0) of nothing that burns", Check.yard("cells 999;").give(0), PailRow.NONE);
    }

    private static void dueGive(String yard, int litres, int column) {
        Check.due("give(" + litres + ") of " + yard, Check.yard(yard).give(litres), column);
    }

    /** What is given up counts; of like ones the most western; as much as without is not better. */
    private static void giveUp() {
        Check.promise(27);
        dueGive("cells 9;burn 0 0;", 0, PailRow.NONE);
        dueGive("cells 90;burn 0 0;", 0, PailRow.NONE);
        dueGive("cells 99;burn 0 0;", 0, 0);
        dueGive("cells 99;burn 1 0;", 0, 1);
        dueGive("cells 00000099;burn 7 0;", 0, 7);
        dueGive("cells 99099;burn 0 0;burn 4 0;", 0, 0);
        dueGive("cells 90099;burn 0 0;burn 4 0;", 0, 4);
        // What catches gives too little HEAT for the third: 10 are lost without, 9 and 0 by the first column.
        dueGive("cells 919;burn 0 0;", 0, 0);
        dueGive("cells 901;burn 0 0;", 0, PailRow.NONE);
        dueGive("cells 999;burn 0 0;", 0, 0);
        dueGive("cells 9;cells 9;burn 0 0;", 0, PailRow.NONE);
        dueGive("cells 91;cells 91;burn 0 0;", 0, 0);
        dueGive("cells 5199;burn 0 0;wind east;", 0, 0);
        dueGive("cells 999;burn 0 0;wind east;", 90, PailRow.NONE);
        // The first goes out in the second minute; the second column is a gap that costs 3.
        dueGive("cells 93999;burn 0 0;wind east;", 50, 1);
    }

    private static String without(String yard, int column) {
        StringBuilder left = new StringBuilder();
        for (String line : yard.split(";")) {
            if (line.startsWith("burn " + column + " ")) {
                continue;
            }
            boolean cells = line.startsWith("cells ") && column >= 0;
            left.append(cells ? line.substring(0, 6 + column) + "0" + line.substring(7 + column) : line).append(';');
        }
        return left.toString();
    }

    private static int bestColumn(String yard, int litres, int minutes) {
        int least = Check.yard(yard).fire(minutes, litres, 1, 0);
        int best = PailRow.NONE;
        PailRow whole = Check.yard(yard);
        for (int column = 0; column < whole.count(1); column++) {
            int lost = Check.yard(without(yard, column)).fire(minutes, litres, 1, 0);
            for (int y = 0; y < whole.count(2); y++) {
                lost += whole.cell(column, y, 0);
            }
            if (lost < least) {
                least = lost;
                best = column;
            }
        }
        return best;
    }

    /** In 30 minutes: in the first of these barns 31 would tell another column, in the second one 29 would. */
    private static void giveThirtyMinutes() {
        Check.promise(27);
        String first = "cells 60669067;cells 60805090;cells 60606060;cells 00909080;cells 67609050;cells 50908050;"
                + "cells 60605083;cells 96709550;burn 7 0;burn 0 4;";
        int[] firstDue = {1, 1, 6};
        String second = "cells 80799078;cells 80506078;cells 80509000;cells 92705090;cells 80907060;cells 90706072;"
                + "cells 82709053;cells 78908587;burn 6 3;burn 0 6;";
        int[] secondDue = {0, PailRow.NONE, PailRow.NONE};
        for (int i = 0; i < 3; i++) {
            Check.due("in " + (29 + i) + " minutes", bestColumn(first, 5, 29 + i), firstDue[i]);
            Check.due("in " + (29 + i) + " minutes", bestColumn(second, 6, 29 + i), secondDue[i]);
        }
        Check.due("give(5): 30, not 31", Check.yard(first).give(5), 1);
        Check.due("give(6): 30, not 29", Check.yard(second).give(6), PailRow.NONE);
    }

    private static void enoughAsTold() {
        Check.promise(28);
        PailRow x = Check.yard("cells 9;burn 0 0;");
        Check.dueRange("enough(1, ..)", 1, 60, -2, minutes -> x.enough(1, minutes));
        Check.dueRange("enough(0, ..)", 1, 60, -2, minutes -> x.enough(0, minutes));
        Check.due("enough(0, 8)", x.enough(0, 8), PailRow.NONE);
        Check.due("enough(0, 9)", x.enough(0, 9), 0);
        Check.due("enough(1, 60) of nothing that burns", Check.yard("cells 9;").enough(1, 60), 0);
        Check.due("enough(1, 1) of no CELLS", new PailRow().enough(1, 1), 0);
        Check.due("enough(100, 1) of no CELLS", new PailRow().enough(100, 1), -2);
        Check.due("enough: 200 are too few", Check.yard("cells 909;burn 0 0;burn 2 0;").enough(1, 1), PailRow.NONE);
        Check.due("enough: one minute more", Check.yard("cells 909;burn 0 0;burn 2 0;").enough(1, 2), 90);
    }

    /** With one litre less it is not OUT. */
    private static void enoughIsLeast() {
        Check.promise(28);
        int[] due = {90, 40, 24, 15, 10, 7, 5, 3, 0, 0};
        PailRow x = Check.yard("cells 9;burn 0 0;");
        for (int minutes = 1; minutes <= due.length; minutes++) {
            for (int aim : new int[] {1, 2, 3, 100}) {
                int litres = x.enough(aim, minutes);
                Check.due("enough(" + aim + ", " + minutes + ")", litres, due[minutes - 1]);
                x.fire(minutes, litres, aim, 0);
                Check.due("it is OUT", x.out() >= 0, true);
                if (litres > 0) {
                    x.fire(minutes, litres - 1, aim, 0);
                    Check.due("it is not OUT", x.out(), PailRow.NONE);
                }
            }
        }
        for (int fuel = 1; fuel <= 9; fuel++) {
            PailRow one = Check.yard("cells " + fuel + ";burn 0 0;");
            Check.due("enough(1, 1) of FUEL " + fuel, one.enough(1, 1), fuel == 1 ? 0 : 10 * fuel);
        }
    }
}
