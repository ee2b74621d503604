import java.util.Arrays;

/** Promises 8 to 21 at their edges: rows, running men, those beside and in turn, hooks. */
public final class RowEdgesTest {
    private static final String PAIR = "man al 1 1 1;man bo 1 1 1;way 10;pails 1 10;well 1 25;back 3;throw 1;";
    private static final String TWELVE = Check.alike(12, 99);

    public static void main(String[] args) {
        menOfARow();
        ticksOfARow();
        rowTickByTick();
        rowInOrder();
        rowBeginsAnew();
        wells();
        spilling();
        backAgain();
        tiredOnes();
        rowByEdges();
        heaps();
        rowByOfTheLatest();
        doneEdges();
        periods();
        gaps();
        orders();
        ordersOfTheLatest();
        runningMen();
        runningPails();
        runningTickByTick();
        runningInTurn();
        linesAsTold();
        linesLeast();
        costs();
        costsOfRows();
        others();
        othersOneByOne();
        reliefMen();
        reliefHour();
        hooksAsTold();
        hooksFirst();
        Check.end();
    }

    private interface Asked {
        long of(PailRow x);
    }

    /** The tape's MEN: from least to most of them, unlike, each one of the yard's. */
    private static void dueMen(String what, int least, int most, long refusal, Asked call) {
        PailRow twelve = Check.yard(TWELVE);
        dueTaken(what, twelve, true, refusal, call, Check.rising(least));
        dueTaken(what, twelve, true, refusal, call, Check.rising(most));
        dueTaken(what, twelve, false, refusal, call, Check.rising(least - 1));
        dueTaken(what, twelve, false, refusal, call, Check.rising(most + 1));
        int[] doubled = Check.rising(most);
        doubled[most - 1] = 0;
        dueTaken(what, twelve, false, refusal, call, doubled);
        int[] tooMany = Check.rising(most + 1);
        tooMany[most] = most - 1;
        dueTaken(what, twelve, false, refusal, call, tooMany);
        dueTaken(what, twelve, false, refusal, call, 5, 5);
        dueTaken(what, twelve, true, refusal, call, 11, 0);
        dueTaken(what, twelve, true, refusal, call, 0, 11);
        for (int b : new int[] {12, 13, 127, 128, 255}) {
            dueTaken(what, twelve, false, refusal, call, 0, b);
            dueTaken(what, twelve, false, refusal, call, b, 0);
        }
        PailRow two = Check.yard(Check.alike(2, 99));
        dueTaken(what, two, true, refusal, call, 1, 0);
        dueTaken(what, two, false, refusal, call, 0, 2);
        dueTaken(what, two, false, refusal, call, 0, 1, 2);
        dueTaken(what, new PailRow(), false, refusal, call, 0);
        dueTaken(what, new PailRow(), false, refusal, call, 0, 1);
        dueTaken(what, twelve, false, refusal, call, Check.rising(740));
    }

    private static void dueTaken(String what, PailRow x, boolean taken, long refusal, Asked call, int... men) {
        Check.men(x, men);
        boolean refused = Check.answerOf(() -> call.of(x)) == refusal;
        Check.due(what + " of " + Arrays.toString(men) + " is taken", !refused, taken);
    }

    private static int row(PailRow x, int ticks, int... men) {
        return Check.men(x, men).row(ticks);
    }

    private static int running(PailRow x, int ticks, int... men) {
        return Check.men(x, men).running(ticks);
    }

    private static void menOfARow() {
        Check.promise(8);
        dueMen("row(9)", 2, 12, PailRow.NONE, x -> x.row(9));
        dueMen("row(0)", 2, 12, PailRow.NONE, x -> x.row(0));
        dueMen("row(3600)", 2, 12, PailRow.NONE, x -> x.row(3600));
    }

    private static void ticksOfARow() {
        Check.promise(8);
        PailRow x = Check.yard(PAIR.replace("25", "9999"));
        Check.dueRange("row", 0, 3600, PailRow.NONE, ticks -> row(x, ticks, 0, 1));
        Check.due("row(0)", row(x, 0, 0, 1), 0);
        // Tired from the 11th pail on: 14 TICKS, 2 more, each.
        Check.due("row(3600)", row(x, 3600, 0, 1) > row(x, 3500, 0, 1), true);
    }

    /** Drawing takes 4, throwing 2, the pail is at the well again 3 later. */
    private static void rowTickByTick() {
        Check.promise(8);
        PailRow x = Check.yard(PAIR);
        int[] thrownAt = {8, 18, 28};
        int[] litres = {0, 10, 20, 25};
        for (int i = 0; i < 3; i++) {
            Check.due("row(" + (thrownAt[i] - 1) + ")", row(x, thrownAt[i] - 1, 0, 1), litres[i]);
            Check.due("row(" + thrownAt[i] + ")", row(x, thrownAt[i], 0, 1), litres[i + 1]);
        }
        Check.due("row(3600)", row(x, 3600, 0, 1), 25);
        // Who comes first draws: the other way round it is the same, of like men.
        Check.due("row(8) of 1 0", row(x, 8, 1, 0), 10);
        // Three: drawing 3, handing 2, throwing 2.
        PailRow three = Check.yard(PAIR.replace(";way", ";man cy 1 1 1;way"));
        Check.due("row(9) of three", row(three, 9, 0, 1, 2), 0);
        Check.due("row(10) of three", row(three, 10, 0, 1, 2), 10);
    }

    /** Pails stand in the order in which they came: the last one has what was left in the well. */
    private static void rowInOrder() {
        Check.promise(8);
        PailRow x = Check.yard("man al 1 1 99;man bo 9 1 99;way 10;pails 4 10;well 1 35;throw 9;");
        // The first is thrown at 24, each next one 18 later; all have come by 17.
        int[] litres = {0, 10, 20, 30, 35};
        for (int i = 0; i < 4; i++) {
            int at = 24 + 18 * i;
            Check.due("row(" + (at - 1) + ")", row(x, at - 1, 0, 1), litres[i]);
            Check.due("row(" + at + ")", row(x, at, 0, 1), litres[i + 1]);
        }
        // 34 pails: more than stand at a place at once.
        PailRow many = Check.yard("man al 1 1 99;man bo 9 1 99;way 10;pails 30 10;well 1 335;back 1;throw 9;");
        Check.due("the 33rd", row(many, 24 + 18 * 32, 0, 1), 330);
        Check.due("the 34th", row(many, 24 + 18 * 33, 0, 1), 335);
    }

    /** Whatever row was ahead: how many men, how long, how many pails on their way. */
    private static void rowBeginsAnew() {
        String yard = TWELVE + "way 10;pails 3 10;well 1 9999;back 30;throw 1;spill 7;";
        PailRow used = Check.yard(yard);
        int[] sizes = {12, 2, 3, 2, 11, 4};
        for (int ticks = 0; ticks <= 240; ticks++) {
            int[] ahead = Check.rising(sizes[ticks % sizes.length]);
            int[] men = Check.rising(sizes[(ticks + 1) % sizes.length]);
            row(used, ticks, ahead);
            PailRow fresh = Check.yard(yard);
            String of = "(250) of " + men.length + " behind row(" + ticks + ") of " + ahead.length;
            Check.promise(8);
            Check.due("row" + of, row(used, 250, men), row(fresh, 250, men));
            Check.promise(9);
            for (int what = 0; what <= 5; what++) {
                Check.due("rowBy(" + what + ") of row" + of, used.rowBy(what), fresh.rowBy(what));
            }
            Check.promise(14);
            running(used, ticks, ahead);
            Check.due("running" + of, running(used, 250, men), running(fresh, 250, men));
        }
        // The first pail is thrown at 8, and not back yet when the next row begins, whenever it is due.
        for (int back = 1; back <= 99; back++) {
            String pair = PAIR.replace("25", "9999").replace("back 3", "back " + back);
            PailRow x = Check.yard(pair);
            PailRow fresh = Check.yard(pair);
            row(x, 8, 0, 1);
            Check.promise(8);
            Check.due("row behind a pail on its way back", row(x, 200, 0, 1), row(fresh, 200, 0, 1));
            Check.promise(9);
            Check.due("litres drawn", x.rowBy(2), fresh.rowBy(2));
        }
    }

    private static void wells() {
        Check.promise(8);
        int[] wells = {0, 1, 9, 10, 11, 20};
        int[] first = {0, 1, 9, 10, 10, 10};
        for (int i = 0; i < wells.length; i++) {
            PailRow x = Check.yard(PAIR.replace("25", "" + wells[i]));
            Check.due("row(8) of a well of " + wells[i], row(x, 8, 0, 1), first[i]);
            Check.due("row(3600) of a well of " + wells[i], row(x, 3600, 0, 1), wells[i]);
            Check.promise(9);
            Check.due("litres drawn", x.rowBy(2), wells[i]);
            Check.due("pails thrown", x.rowBy(4), (wells[i] + 9) / 10);
            Check.due("litres on their way", x.rowBy(5), 0);
            Check.promise(10);
            Check.due("done(0): no pail is drawn without a litre", x.done(0), (wells[i] + 9) / 10);
            Check.promise(8);
        }
    }

    private static void dueSpilt(int hold, int spill, int men, int spilt) {
        PailRow x = Check.yard(TWELVE + "pails 1 " + hold + ";well 1 " + hold + ";spill " + spill + ";");
        int thrown = row(x, 3600, Check.rising(men));
        Check.promise(8);
        Check.due("thrown of " + hold + " by " + men + ", spill " + spill, thrown, hold - spilt);
        Check.promise(9);
        Check.due("rowBy(3) of " + hold + " by " + men + ", spill " + spill, x.rowBy(3), spilt);
        Check.due("rowBy(5)", x.rowBy(5), 0);
    }

    private static void spilling() {
        dueSpilt(10, 0, 2, 0);
        dueSpilt(10, 9, 2, 0);
        dueSpilt(10, 10, 2, 1);
        dueSpilt(10, 19, 2, 1);
        dueSpilt(10, 20, 2, 2);
        dueSpilt(20, 99, 2, 19);
        dueSpilt(20, 4, 2, 0);
        dueSpilt(20, 5, 2, 1);
        dueSpilt(1, 99, 2, 0);
        dueSpilt(2, 49, 2, 0);
        dueSpilt(2, 50, 2, 1);
        // Each who draws or hands spills of what is left, who throws does not.
        dueSpilt(10, 10, 3, 1);
        dueSpilt(10, 15, 3, 2);
        dueSpilt(20, 50, 12, 19);
    }

    private static void backAgain() {
        for (int back : new int[] {1, 2, 98, 99}) {
            PailRow x = Check.yard(PAIR.replace("back 3", "back " + back));
            Check.promise(9);
            row(x, 8 + back - 1, 0, 1);
            Check.due("litres drawn a TICK ahead of back " + back, x.rowBy(2), 10);
            row(x, 8 + back, 0, 1);
            Check.due("litres drawn at back " + back, x.rowBy(2), 20);
            Check.promise(8);
            Check.due("row", row(x, 8 + back + 6, 0, 1), 10);
            Check.due("row", row(x, 8 + back + 7, 0, 1), 20);
        }
    }

    private static void dueEleventh(String yard, int at, int... men) {
        PailRow x = Check.yard(yard);
        Check.due("row(" + (at - 1) + ") of " + yard, row(x, at - 1, men), 100);
        Check.due("row(" + at + ") of " + yard, row(x, at, men), 110);
    }

    /** The tenth pail is not slow yet; who has done 10 times POWER takes twice as long for the next. */
    private static void tiredOnes() {
        Check.promise(8);
        String pair = "man al 1 1 2;man bo 1 1 2;way 10;pails 1 10;well 1 9999;back 3;throw 1;";
        dueEleventh(pair, 108, 0, 1);
        dueEleventh(pair.replace("al 1 1 2", "al 1 1 1"), 112, 0, 1);
        dueEleventh(pair.replace("bo 1 1 2", "bo 1 1 1"), 110, 0, 1);
        dueEleventh(pair.replace("1 1 2", "1 1 1"), 114, 0, 1);
        PailRow x = Check.yard(pair.replace("1 1 2", "1 1 1"));
        Check.due("the tenth: row(97)", row(x, 97, 0, 1), 90);
        Check.due("the tenth: row(98)", row(x, 98, 0, 1), 100);
        // A row of three: drawing 3, handing 2, throwing 2, back 3: 12 for each pail.
        String three = pair.replace(";way", ";man cy 1 1 2;way");
        dueEleventh(three, 130, 0, 1, 2);
        dueEleventh(three.replace("al 1 1 2", "al 1 1 1"), 133, 0, 1, 2);
        dueEleventh(three.replace("bo 1 1 2", "bo 1 1 1"), 132, 0, 1, 2);
        dueEleventh(three.replace("cy 1 1 2", "cy 1 1 1"), 132, 0, 1, 2);
        // POWER 2: the 20th is not slow, the 21st is.
        PailRow two = Check.yard(pair.replace("al 1 1 2", "al 1 1 99"));
        Check.due("the 20th: row(197)", row(two, 197, 0, 1), 190);
        Check.due("the 20th: row(198)", row(two, 198, 0, 1), 200);
        Check.due("the 21st: row(209)", row(two, 209, 0, 1), 200);
        Check.due("the 21st: row(210)", row(two, 210, 0, 1), 210);
    }

    private static void rowByEdges() {
        Check.promise(9);
        PailRow x = Check.yard(PAIR);
        row(x, 8, 0, 1);
        Check.dueRange("rowBy", 0, 5, PailRow.NONE, x::rowBy);
        row(x, 0, 0, 1);
        for (int what = 0; what <= 5; what++) {
            Check.due("rowBy(" + what + ") of row(0)", x.rowBy(what), 0);
        }
        int[][] due = {{1, 0, 0, 10, 0, 0, 10}, {4, 0, 0, 10, 0, 0, 10}, {5, 1, 1, 10, 0, 0, 10},
            {7, 1, 1, 10, 0, 0, 10}, {8, 1, 1, 10, 0, 1, 0}, {10, 1, 1, 10, 0, 1, 0}, {11, 1, 1, 20, 0, 1, 10},
            {28, 1, 1, 25, 0, 3, 0}};
        for (int[] by : due) {
            row(x, by[0], 0, 1);
            for (int what = 0; what <= 5; what++) {
                Check.due("rowBy(" + what + ") of row(" + by[0] + ")", x.rowBy(what), by[what + 1]);
            }
        }
    }

    private static void dueHeap(PailRow x, int ticks, int heap, int place, int... men) {
        row(x, ticks, men);
        Check.due("HEAP of row(" + ticks + ")", x.rowBy(0), heap);
        Check.due("its place", x.rowBy(1), place);
    }

    private static void heaps() {
        Check.promise(9);
        // All pails stand at the well at first: the drawer's are not counted.
        PailRow many = Check.yard("man al 1 1 9;man bo 1 1 9;man cy 1 1 9;way 10;pails 30 1;well 30 9999;throw 1;");
        dueHeap(many, 0, 0, 0, 0, 1, 2);
        dueHeap(many, 32, 0, 0, 0, 1, 2);
        dueHeap(many, 33, 1, 1, 0, 1, 2);
        dueHeap(many, 3600, 1, 1, 0, 1, 2);
        // Of like ones the first: the second place has one at 33, the third at 36.
        dueHeap(many, 36, 1, 1, 0, 1, 2);
        // Drawing 3, handing 2, throwing 18: more stand at the last place.
        PailRow last = Check.yard("man al 1 1 99;man bo 1 1 99;man cy 9 1 99;way 10;pails 9 3;well 1 9999;throw 9;");
        dueHeap(last, 8, 1, 1, 0, 1, 2);
        dueHeap(last, 200, 7, 2, 0, 1, 2);
        // It is the most that ever stood, not what stands at the end.
        PailRow dry = Check.yard("man al 1 1 99;man bo 1 1 99;man cy 9 1 99;way 10;pails 9 3;well 1 27;throw 9;");
        dueHeap(dry, 3600, 7, 2, 0, 1, 2);
        Check.due("all is thrown", dry.rowBy(4), 9);
        // Of thirty pails one is in the thrower's hands while all others stand before him.
        PailRow most = Check.yard("man al 1 1 99;man bo 9 1 99;way 10;pails 30 1;well 1 9999;back 1;throw 9;");
        dueHeap(most, 3600, 29, 1, 0, 1);
        // Nobody draws: none stood.
        PailRow empty = Check.yard(PAIR.replace("25", "0"));
        dueHeap(empty, 3600, 0, 0, 0, 1);
    }

    private static void rowByOfTheLatest() {
        PailRow x = Check.yard(PAIR + "cells 9;burn 0 0;");
        row(x, 11, 0, 1);
        int[] due = {1, 1, 20, 0, 1, 10};
        Asked[] others = {y -> y.row(-1), y -> y.row(3601), y -> Check.men(y, 0).row(5), y -> Check.men(y, 0, 2).row(5),
            y -> Check.men(y, 0, 1).period(), y -> Check.men(y, 0, 1).best(), y -> Check.men(y, 0, 1).running(50),
            y -> y.line(70), y -> Check.men(y, 0, 1).cost(1, 70), y -> Check.men(y, 0, 1).more(1),
            y -> Check.tape(y, "at 0 row bo al;").plan(), y -> y.night(3, 0), y -> Check.tape(y, "way 99;").yard()};
        for (int i = 0; i < others.length; i++) {
            Check.answerOf(asCall(others[i], x));
            Check.promise(9);
            for (int what = 0; what <= 5; what++) {
                Check.due("rowBy(" + what + ") behind other call " + i, x.rowBy(what), due[what]);
            }
            Check.promise(10);
            Check.due("done(0) behind other call " + i, x.done(0), 1);
            Check.due("done(1) behind other call " + i, x.done(1), 1);
            Check.due("done(2) behind other call " + i, x.done(2), PailRow.NONE);
        }
    }

    private static Check.Call asCall(Asked asked, PailRow x) {
        return () -> asked.of(x);
    }

    private static void doneEdges() {
        Check.promise(10);
        PailRow x = Check.yard(TWELVE + "way 10;pails 30 1;well 1 9999;");
        row(x, 100, 0, 1);
        Check.dueRange("done of two", 0, 1, PailRow.NONE, x::done);
        row(x, 100, Check.rising(12));
        Check.dueRange("done of twelve", 0, 11, PailRow.NONE, x::done);
        row(x, 100, 3, 4, 5);
        Check.dueRange("done of three", 0, 2, PailRow.NONE, x::done);
        row(x, 0, 0, 1);
        Check.due("done(0) of row(0)", x.done(0), 0);
        Check.due("done(1) of row(0)", x.done(1), 0);
        PailRow pair = Check.yard(PAIR);
        int[][] due = {{4, 0, 0}, {5, 1, 0}, {7, 1, 0}, {8, 1, 1}, {14, 1, 1}, {15, 2, 1}, {17, 2, 1}, {18, 2, 2}};
        for (int[] by : due) {
            row(pair, by[0], 0, 1);
            Check.due("done(0) of row(" + by[0] + ")", pair.done(0), by[1]);
            Check.due("done(1) of row(" + by[0] + ")", pair.done(1), by[2]);
        }
    }

    private static int period(PailRow x, int... men) {
        return Check.men(x, men).period();
    }

    private static void periods() {
        Check.promise(11);
        dueMen("period", 2, 12, PailRow.NONE, PailRow::period);
        PailRow x = Check.yard("man al 1 1 1;man bo 5 1 1;man cy 9 1 1;way 10;well 3 9;throw 4;");
        // Drawing: 3, HAND, 2 of two, 1 of three; handing: HAND, 1; throwing: 4, HAND.
        Check.due("period 0 1", period(x, 0, 1), 9);
        Check.due("period 1 0", period(x, 1, 0), 10);
        Check.due("period 2 0", period(x, 2, 0), 14);
        Check.due("period 0 2", period(x, 0, 2), 13);
        Check.due("period 0 2 1", period(x, 0, 2, 1), 10);
        Check.due("period 0 1 2", period(x, 0, 1, 2), 13);
        Check.due("period 2 1 0", period(x, 2, 1, 0), 13);
        // Nobody is tired in it, whatever was done.
        row(x, 3600, 0, 1);
        Check.due("period 0 1 behind a long row", period(x, 0, 1), 9);
    }

    private static void dueGap(int way, int men, int gapBy4) {
        PailRow x = Check.yard(TWELVE + "way " + way + ";well 30 9;throw 1;");
        Check.due("period of " + men + ", way " + way, period(x, Check.rising(men)), 31 + gapBy4);
    }

    /** G: 'way' by one less than there are MEN, cut up; then by 4, cut. */
    private static void gaps() {
        Check.promise(11);
        dueGap(10, 2, 2);
        dueGap(11, 2, 2);
        dueGap(12, 2, 3);
        dueGap(99, 2, 24);
        dueGap(14, 3, 1);
        dueGap(15, 3, 2);
        dueGap(16, 3, 2);
        dueGap(22, 3, 2);
        dueGap(23, 3, 3);
        dueGap(77, 12, 1);
        dueGap(78, 12, 2);
        dueGap(33, 12, 0);
        dueGap(34, 12, 1);
        dueGap(10, 12, 0);
        dueGap(99, 12, 2);
    }

    private static void dueBest(PailRow x, int want, int[] men, int... order) {
        Check.promise(12);
        Check.due("best of " + Arrays.toString(men), Check.men(x, men).best(), want);
        Check.promise(13);
        for (int p = 0; p < order.length; p++) {
            Check.due("bestAt(" + p + ") of " + Arrays.toString(men), x.bestAt(p), order[p]);
        }
        Check.dueRange("bestAt", 0, order.length - 1, PailRow.NONE, x::bestAt);
    }

    private static void orders() {
        Check.promise(12);
        dueMen("best", 2, 7, PailRow.NONE, PailRow::best);
        PailRow like = Check.yard(TWELVE + "way 10;well 1 9;throw 3;");
        dueBest(like, 4, new int[] {11, 3}, 3, 11);
        dueBest(like, 4, new int[] {3, 11}, 3, 11);
        dueBest(like, 4, new int[] {9, 8, 7, 6, 5, 4, 3}, 3, 4, 5, 6, 7, 8, 9);
        // The slow one must not throw: the first order where he does not.
        PailRow slow = Check.yard("man al 1 1 1;man bo 1 1 1;man cy 4 1 1;way 10;well 4 9;throw 5;");
        dueBest(slow, 6, new int[] {0, 1, 2}, 0, 2, 1);
        dueBest(slow, 6, new int[] {2, 1, 0}, 0, 2, 1);
        // Drawing 7, 10 and throwing 6, 9: the slow one throws, of like ones the first is 0 1.
        dueBest(slow, 9, new int[] {1, 2}, 1, 2);
    }

    private static void ordersOfTheLatest() {
        PailRow x = Check.yard(TWELVE);
        Check.men(x, 2, 1).best();
        Asked[] refused = {y -> Check.men(y, 0).best(), y -> Check.men(y, 0, 0).best(), y -> Check.men(y, 0, 12).best(),
            y -> Check.men(y, Check.rising(8)).best(), y -> Check.men(y, 0, 1, 2).more(3),
            y -> Check.men(y, 0, 3).row(5)};
        Check.promise(13);
        for (Asked call : refused) {
            call.of(x);
            Check.due("bestAt(0) of the latest", x.bestAt(0), 1);
            Check.due("bestAt(1) of the latest", x.bestAt(1), 2);
            Check.due("bestAt(2) of the latest", x.bestAt(2), PailRow.NONE);
        }
        Check.men(x, 4, 5, 6).best();
        Check.due("bestAt(2) of a longer one", x.bestAt(2), 6);
        Check.men(x, 7, 8).best();
        Check.due("bestAt(2) of a shorter one", x.bestAt(2), PailRow.NONE);
    }

    private static void runningMen() {
        Check.promise(14);
        dueMen("running", 1, 12, PailRow.NONE, x -> x.running(9));
        dueMen("running(0)", 1, 12, PailRow.NONE, x -> x.running(0));
        dueMen("running(3600)", 1, 12, PailRow.NONE, x -> x.running(3600));
        PailRow x = Check.yard(Check.alike(1, 1));
        Check.due("running(0) of one", running(x, 0, 0), 0);
        Check.due("running of no such", running(x, 5, 1), PailRow.NONE);
        Check.dueRange("running", 0, 3600, PailRow.NONE, ticks -> running(x, ticks, 0));
    }

    /** No more of them than pails, the first ones told. */
    private static void runningPails() {
        Check.promise(14);
        String yard = "man al 1 9 1;man bo 1 1 1;man cy 1 9 1;way 10;well 5 9999;";
        PailRow one = Check.yard(yard + "pails 1 6;");
        Check.due("the first alone runs", running(one, 8, 0, 1, 2), 3);
        Check.due("the first alone runs", running(one, 15, 1, 0, 2), 0);
        Check.due("the first alone runs", running(one, 16, 1, 0, 2), 3);
        PailRow two = Check.yard(yard + "pails 2 6;");
        Check.due("two run", running(two, 12, 1, 0, 2), 0);
        Check.due("two run", running(two, 13, 1, 0, 2), 3);
        Check.due("two run", running(two, 20, 1, 0, 2), 6);
        PailRow three = Check.yard(yard + "pails 3 6;");
        Check.due("three run", running(three, 18, 1, 0, 2), 9);
    }

    private static void dueFirst(String yard, int at, int litres) {
        PailRow x = Check.yard(yard);
        Check.due("running(" + (at - 1) + ") of " + yard, running(x, at - 1, 0), 0);
        Check.due("running(" + at + ") of " + yard, running(x, at, 0), litres);
    }

    /** The way by PACE, cut up; half of the litres, cut up; a litre in the well. */
    private static void runningTickByTick() {
        Check.promise(14);
        dueFirst("man al 1 9 1;way 10;well 5 9999;pails 1 6;", 8, 3);
        dueFirst("man al 1 5 1;way 10;well 5 9999;pails 1 5;", 8, 3);
        dueFirst("man al 1 4 1;way 10;well 5 9999;pails 1 4;", 9, 2);
        dueFirst("man al 1 1 1;way 10;well 5 9999;pails 1 1;", 16, 1);
        dueFirst("man al 1 1 1;way 99;well 30 9999;pails 1 20;", 130, 10);
        dueFirst("man al 1 9 1;way 18;well 1 9999;pails 1 20;", 4, 10);
        dueFirst("man al 1 9 1;way 19;well 1 9999;pails 1 20;", 5, 10);
        dueFirst("man al 1 9 1;way 10;well 1 1;pails 1 20;", 4, 1);
        dueFirst("man al 1 9 1;way 10;well 1 2;pails 1 20;", 4, 1);
        dueFirst("man al 1 9 1;way 10;well 1 3;pails 1 20;", 4, 2);
        dueFirst("man al 1 9 1;way 10;well 1 0;pails 1 20;", 3600, 0);
        // The second pail: back at 10, drawn at 15, thrown at 17; what is left in the well is 4.
        PailRow x = Check.yard("man al 1 9 1;way 10;well 5 9;pails 1 5;");
        Check.due("running(16)", running(x, 16, 0), 3);
        Check.due("running(17)", running(x, 17, 0), 5);
        Check.due("running(3600)", running(x, 3600, 0), 5);
        // Who runs is never tired: 9 TICKS for each litre or two.
        PailRow weak = Check.yard("man al 1 9 1;way 10;well 5 9999;pails 1 2;");
        Check.due("running(3598)", running(weak, 8 + 9 * 398, 0), 399);
        Check.due("running(3597)", running(weak, 8 + 9 * 398 - 1, 0), 398);
    }

    /** What is done in a TICK lets the next one told begin in that TICK, those ahead of him in the next. */
    private static void runningInTurn() {
        Check.promise(14);
        PailRow x = Check.yard("man al 1 9 1;man bo 1 9 1;way 10;pails 2 2;well 5 9999;");
        int[] thrownAt = {8, 13, 19, 24};
        for (int i = 0; i < thrownAt.length; i++) {
            Check.due("running(" + (thrownAt[i] - 1) + ")", running(x, thrownAt[i] - 1, 0, 1), i);
            Check.due("running(" + thrownAt[i] + ")", running(x, thrownAt[i], 0, 1), i + 1);
        }
    }

    private static void linesAsTold() {
        Check.promise(15);
        PailRow x = Check.yard("man a 5 5 74;man b 5 5 14;man c 5 5 19;way 53;pails 19 4;well 20 2601;spill 12;");
        Check.due("line(3600)", x.line(3600) >= 2, true);
        Check.due("line(3601)", x.line(3601), PailRow.NONE);
        Check.due("line(-1)", x.line(-1), PailRow.NONE);
        Check.due("line(0): none throws more", x.line(0), PailRow.NONE);
        for (int far : new int[] {Integer.MIN_VALUE, -3600, 65536, Integer.MAX_VALUE}) {
            Check.due("line(" + far + ")", x.line(far), PailRow.NONE);
        }
        Check.due("line of no MEN", new PailRow().line(600), PailRow.NONE);
        Check.due("line of one MAN", Check.yard(Check.alike(1, 99)).line(3600), PailRow.NONE);
        Check.due("line of two", Check.yard(Check.alike(2, 99)).line(3600), 2);
    }

    private static void linesLeast() {
        Check.promise(15);
        PailRow x = Check.yard("man a 5 5 74;man b 5 5 14;man c 5 5 19;way 53;pails 19 4;well 20 2601;spill 12;");
        Check.due("two in a ROW throw", row(x, 265, 0, 1), 24);
        Check.due("as much as RUNNING", running(x, 265, 0, 1), 24);
        Check.due("three throw more", row(x, 265, 0, 1, 2) > running(x, 265, 0, 1, 2), true);
        Check.due("as much is not more: line(265)", x.line(265), 3);
        String first = "man a 4 5 2;man b 4 5 27;man c 4 5 46;man d 4 5 44;man e 4 5 80;man f 4 5 64;man g 4 5 33;"
                + "man h 4 5 36;man i 4 5 18;man j 4 5 17;man k 4 5 20;";
        String behind = "way 72;pails 10 2;well 20 5195;spill 45;";
        Check.due("twelve are as many as all", Check.yard(first + "man l 4 5 13;" + behind).line(1553), 12);
        Check.due("eleven are too few", Check.yard(first + behind).line(1553), PailRow.NONE);
        Check.due("one more TICK behind all", Check.yard(first + "man l 4 5 13;" + behind).line(3601), PailRow.NONE);
    }

    private static long cost(PailRow x, int m, int ticks, int... men) {
        Check.men(x, men);
        return Check.answerOf(() -> x.cost(m, ticks));
    }

    private static void costs() {
        Check.promise(16);
        dueMen("cost(1, 90)", 2, 12, Check.NO_SUCH, x -> x.cost(1, 90));
        dueMen("cost(0, 0)", 2, 12, Check.NO_SUCH, x -> x.cost(0, 0));
        PailRow x = Check.yard(Check.alike(2, 9));
        Check.dueRange("cost(.., 3600)", 0, 60, Check.NO_SUCH, m -> cost(x, m, 3600, 0, 1));
        Check.dueRange("cost(0, ..)", 0, 3600, Check.NO_SUCH, ticks -> cost(x, 0, ticks, 0, 1));
        Check.dueRange("cost(1, ..)", 60, 3600, Check.NO_SUCH, ticks -> cost(x, 1, ticks, 0, 1));
        Check.dueRange("cost(59, ..)", 3540, 3600, Check.NO_SUCH, ticks -> cost(x, 59, ticks, 0, 1));
        Check.dueRange("cost(60, ..)", 3600, 3600, Check.NO_SUCH, ticks -> cost(x, 60, ticks, 0, 1));
        // 60 m beyond an int's end.
        for (int m : new int[] {71582789, 35791394, 1 << 30, -(1 << 30)}) {
            Check.due("cost(" + m + ", 60)", cost(x, m, 60, 0, 1), Check.NO_SUCH);
        }
    }

    private static void costsOfRows() {
        Check.promise(16);
        PailRow x = Check.yard("man al 1 9 9;man bo 1 9 9;way 10;pails 2 10;well 1 9999;");
        int runs = running(x, 60, 0, 1);
        Check.due("no minute costs nothing", cost(x, 0, 500, 0, 1), 0);
        Check.due("cost(0, 0)", cost(x, 0, 0, 0, 1), 0);
        Check.due("no TICK is left for the row", cost(x, 1, 60, 0, 1), row(x, 60, 0, 1) - runs);
        Check.due("a row that begins anew", cost(x, 1, 100, 0, 1), row(x, 100, 0, 1) - runs - row(x, 40, 0, 1));
        Check.due("all minutes", cost(x, 60, 3600, 0, 1), row(x, 3600, 0, 1) - running(x, 3600, 0, 1));
        // RUNNING draws all 20 litres and throws half; of 21 one is left for the row.
        String little = "man al 1 9 9;man bo 1 9 9;way 10;pails 2 10;well 1 ";
        Check.due("nothing is left", cost(Check.yard(little + "20;"), 1, 600, 0, 1), 20 - 10);
        // What was drawn is gone, though it is not thrown yet: at 60 it is on the way.
        PailRow far = Check.yard("man al 1 1 9;man bo 1 1 9;way 59;pails 2 10;well 1 20;");
        Check.due("running(60)", running(far, 60, 0, 1), 0);
        Check.due("what is drawn is gone", cost(far, 1, 3600, 0, 1), row(far, 3600, 0, 1));
        PailRow farther = Check.yard("man al 1 1 9;man bo 1 1 9;way 59;pails 1 10;well 1 20;");
        Check.due("one pail of two is left", cost(farther, 1, 3600, 0, 1), 20 - 10);
    }

    private static void others() {
        Check.promise(17);
        dueMen("more(0)", 2, 12, PailRow.NONE, x -> x.more(0));
        dueMen("more(9)", 2, 12, PailRow.NONE, x -> x.more(9));
        PailRow x = Check.yard(TWELVE);
        Check.dueRange("more", 0, 9, PailRow.NONE, n -> Check.men(x, 0, 1).more(n));
        Check.promise(18);
        Check.men(x, 0, 1, 2).more(1);
        Check.dueRange("moreAt of three", 0, 2, PailRow.NONE, x::moreAt);
        Check.men(x, Check.rising(12)).more(9);
        Check.dueRange("moreAt of twelve", 0, 11, PailRow.NONE, x::moreAt);
        Check.men(x, 0, 1).more(9);
        Check.dueRange("moreAt of two", 0, 1, PailRow.NONE, x::moreAt);
        int sum = x.moreAt(0) + x.moreAt(1);
        Check.due("nine in all", sum, 9);
        Asked[] refused = {y -> Check.men(y, 0).more(1), y -> Check.men(y, 0, 0).more(1),
            y -> Check.men(y, 0, 12).more(1), y -> Check.men(y, 0, 1, 2).more(-1), y -> Check.men(y, 0, 1, 2).more(10)};
        for (Asked call : refused) {
            call.of(x);
            Check.due("moreAt of the latest", x.moreAt(0) + x.moreAt(1), 9);
            Check.due("moreAt(2) of the latest", x.moreAt(2), PailRow.NONE);
        }
        Check.men(x, 0, 1).more(0);
        Check.due("moreAt(0) of more(0)", x.moreAt(0), 0);
        Check.due("moreAt(1) of more(0)", x.moreAt(1), 0);
    }

    /** TIMES 9 and 3: 5 3, then of like ones the first: 3 3, 2 3, 2 2, 2 2, 2 2; 9 by 6 is 2, by 7 2, by 9 1. */
    private static void othersOneByOne() {
        PailRow x = Check.yard("man al 1 1 1;man bo 1 1 1;way 10;well 6 9;throw 2;");
        int[][] due = {{9, 0, 0}, {5, 1, 0}, {3, 2, 0}, {3, 3, 0}, {3, 4, 0}, {2, 4, 1}, {2, 5, 1}, {2, 6, 1},
            {2, 7, 1}, {2, 8, 1}};
        for (int n = 0; n < due.length; n++) {
            Check.promise(17);
            Check.due("more(" + n + ")", Check.men(x, 0, 1).more(n), due[n][0]);
            Check.promise(18);
            Check.due("moreAt(0) of more(" + n + ")", x.moreAt(0), due[n][1]);
            Check.due("moreAt(1) of more(" + n + ")", x.moreAt(1), due[n][2]);
        }
    }

    private static void reliefMen() {
        Check.promise(19);
        dueMen("relief", 1, 12, -2, PailRow::relief);
    }

    private static void dueRelief(int want, int... powers) {
        StringBuilder yard = new StringBuilder();
        for (int i = 0; i < powers.length; i++) {
            yard.append("man m").append((char) ('a' + i)).append(" 1 1 ").append(powers[i]).append(';');
        }
        PailRow x = Check.yard(yard.toString());
        Check.due("relief of " + yard, Check.men(x, Check.rising(powers.length)).relief(), want);
    }

    /** Two throw thirty times each and lose 2 from one time to the next, three twenty times and lose 1, four nothing. */
    private static void reliefHour() {
        Check.promise(19);
        dueRelief(PailRow.NONE, 99);
        dueRelief(2, 61, 61);
        dueRelief(PailRow.NONE, 60, 61);
        // The sixtieth minute alone is too much for the second one.
        dueRelief(PailRow.NONE, 61, 60);
        dueRelief(3, 22, 22, 22);
        dueRelief(PailRow.NONE, 21, 22, 22);
        dueRelief(PailRow.NONE, 22, 22, 21);
        dueRelief(4, 3, 3, 3, 3);
        dueRelief(PailRow.NONE, 3, 3, 3, 2);
        dueRelief(PailRow.NONE, 2, 3, 3, 3);
        dueRelief(2, 61, 61, 99, 99);
        dueRelief(3, 61, 60, 99, 99);
        dueRelief(4, 99, 21, 22, 22);
        dueRelief(4, 3, 3, 3, 3, 1, 1, 1, 1, 1, 1, 1, 1);
        dueRelief(PailRow.NONE, 3, 3, 3, 1, 99, 99, 99, 99, 99, 99, 99, 99);
    }

    private static int hooks(PailRow x, int k, int... houses) {
        return Check.men(x, houses).hooks(k);
    }

    private static void dueHooks(int k, int want, int[] houses, int... at) {
        PailRow x = new PailRow();
        String of = "(" + k + ") of " + Arrays.toString(houses);
        Check.promise(20);
        Check.due("hooks" + of, hooks(x, k, houses), want);
        Check.promise(21);
        for (int i = 0; i < at.length; i++) {
            Check.due("hookAt(" + i + ") of hooks" + of, x.hookAt(i), at[i]);
        }
        Check.dueRange("hookAt of hooks" + of, 0, k - 1, PailRow.NONE, x::hookAt);
    }

    private static void hooksAsTold() {
        Check.promise(20);
        PailRow x = new PailRow();
        Check.dueRange("hooks of twelve", 1, 6, PailRow.NONE, k -> hooks(x, k, Check.rising(12)));
        Check.dueRange("hooks of seven", 1, 6, PailRow.NONE, k -> hooks(x, k, Check.rising(7)));
        Check.dueRange("hooks of six", 1, 6, PailRow.NONE, k -> hooks(x, k, Check.rising(6)));
        Check.dueRange("hooks of five", 1, 5, PailRow.NONE, k -> hooks(x, k, Check.rising(5)));
        Check.dueRange("hooks of one", 1, 1, PailRow.NONE, k -> hooks(x, k, 50));
        Check.due("hooks(1) of none", hooks(x, 1), PailRow.NONE);
        Check.due("hooks(1) of thirteen", hooks(x, 1, Check.rising(13)), PailRow.NONE);
        Check.due("hooks(1) of 740", hooks(x, 1, Check.rising(740)), PailRow.NONE);
        Check.due("hooks(1) at 0 and 99", hooks(x, 1, 0, 99), 99);
        for (int beyond : new int[] {100, 127, 128, 255}) {
            Check.due("hooks(1) at " + beyond, hooks(x, 1, beyond), PailRow.NONE);
            Check.due("hooks(1) at 5 and " + beyond, hooks(x, 1, 5, beyond), PailRow.NONE);
        }
        Check.due("hooks(1) at 5 6: rising", hooks(x, 1, 5, 6), 1);
        Check.due("hooks(1) at 5 5: not rising", hooks(x, 1, 5, 5), PailRow.NONE);
        Check.due("hooks(1) at 6 5: not rising", hooks(x, 1, 6, 5), PailRow.NONE);
        Check.due("hooks(1) at 1 2 3 3: not rising", hooks(x, 1, 1, 2, 3, 3), PailRow.NONE);
        Check.promise(21);
        Check.due("hookAt(0) of the latest that was not NONE", x.hookAt(0), 5);
        Check.due("hookAt(1) of the latest that was not NONE", x.hookAt(1), PailRow.NONE);
    }

    private static void hooksFirst() {
        dueHooks(1, 0, new int[] {0}, 0);
        dueHooks(1, 0, new int[] {99}, 99);
        dueHooks(1, 10, new int[] {0, 10}, 0);
        dueHooks(2, 0, new int[] {0, 10}, 0, 10);
        dueHooks(1, 10, new int[] {0, 10, 20}, 10);
        dueHooks(1, 11, new int[] {0, 10, 21}, 10);
        dueHooks(1, 20, new int[] {0, 10, 20, 30}, 10);
        // 0 and 20, 0 and 30, 10 and 30 leave 10 too: the lesser first, then the next.
        dueHooks(2, 10, new int[] {0, 10, 20, 30}, 0, 20);
        dueHooks(3, 10, new int[] {0, 10, 20, 30}, 0, 10, 20);
        dueHooks(6, 0, new int[] {1, 2, 3, 5, 8, 13}, 1, 2, 3, 5, 8, 13);
        dueHooks(6, 9, new int[] {0, 9, 18, 27, 36, 45, 54, 63, 72, 81, 90, 99}, 0, 9, 18, 36, 63, 90);
        dueHooks(5, 9, new int[] {0, 9, 18, 27, 36, 45, 54, 63, 72, 81, 90, 99}, 0, 9, 36, 63, 90);
        dueHooks(4, 9, new int[] {0, 9, 18, 27, 36, 45, 54, 63, 72, 81, 90, 99}, 9, 36, 63, 90);
        dueHooks(3, 18, new int[] {0, 9, 18, 27, 36, 45, 54, 63, 72, 81, 90, 99}, 0, 36, 81);
    }
}
