import java.util.Arrays;
import java.util.Random;

/**
 * Promises 4 to 35 side by side: calls in any order on one object, each against a new object that was told nothing but
 * the texts that hold then; what other calls told last is looked at behind them all.
 */
public final class AnyOrderTest {
    private static final int SEEDS = 4000;
    private static final int CALLS = 14;

    private static final String[] YARDS = {
        "",
        "man al 2 3 5;man bo 1 2 9;man cy 3 5 1;way 20;pails 3 10;well 4 100;spill 10;back 5;cells 35;cells 79;burn 0 0;",
        "man cy 1 9 2;man al 9 1 9;pails 12 20;well 2 9999;cells 95955;cells 59595;burn 1 0;burn 4 1;wind east;",
        "man bo 2 2 30;man di 1 4 20;man al 3 3 10;man cy 2 9 15;man em 4 5 40;way 60;cells 999;burn 2 0;wind west;",
        "man al 1 1 1;", "cells 90;cells 99;burn 0 1;", "way 99;pails 30 1;", "way 9;", "man al 1 1 1;man al 1 1 1;", "at"};
    private static final String[] PLANS = {"", "at 0 row al bo;at 7 stop;", "at 0 run cy al;at 3 aim 2;at 9 run al;",
        "at 1 row cy al;at 2 give 0;at 2 aim 100;", "at 5 run di bo al;at 30 row em cy bo;at 31 aim 0;", "at 59 stop;",
        "at 4 aim 3;at 4 give 1;", "at 60 stop;", "at 0 row al al;", "stop;"};
    private static final String[] SENTENCES = {"out", "not out and minute<9", "thrown>0 or lost>3", "water<9000",
        "(burns=1 or burns=2) and not lost<2", "minute>50", "", "out out", "thrown>", "not (out"};

    /** What stays as the latest call of each kind told it. */
    private static final int FAULT = 0;
    private static final int ROW = 1;
    private static final int BEST = 2;
    private static final int MORE = 3;
    private static final int HOOKS = 4;
    private static final int FIRE = 5;
    private static final int AIMS = 6;
    private static final int KINDS = 7;
    private static final int NO_KIND = -1;

    private final Random random;
    private final PailRow x = new PailRow();
    private final int[][] latest = new int[KINDS][];
    private final String[][] kept = new String[2][];
    /** The yard, the plan and the sentence; null: none. */
    private String[] texts = {null, null, null};
    private int tape = 0;
    private final StringBuilder story = new StringBuilder();

    private AnyOrderTest(long seed) {
        random = new Random(seed);
        for (int kind = 0; kind < KINDS; kind++) {
            latest[kind] = toldLast(new PailRow(), kind);
        }
    }

    public static void main(String[] args) {
        for (int seed = 0; seed < SEEDS; seed++) {
            AnyOrderTest test = new AnyOrderTest(seed);
            for (int i = 0; i < CALLS; i++) {
                test.callSomething();
                test.compareState();
            }
            test.compareLatest();
        }
        Check.end();
    }

    private int from(int least, int most) {
        return least + random.nextInt(most - least + 1);
    }

    /** A new object with the same texts. */
    private PailRow twin() {
        PailRow twin = new PailRow();
        for (int which = 0; which < 3; which++) {
            if (texts[which] != null) {
                read(Check.tape(twin, texts[which]), which);
            }
        }
        return twin;
    }

    private static int read(PailRow object, int which) {
        return which == 0 ? object.yard() : which == 1 ? object.plan() : object.sentence();
    }

    private static int[] toldLast(PailRow object, int kind) {
        int[] told = new int[18];
        for (int i = 0; i < told.length; i++) {
            switch (kind) {
                case FAULT:
                    told[i] = i == 0 ? object.fault() : 0;
                    break;
                case ROW:
                    told[i] = i < 6 ? object.rowBy(i) : object.done(i - 7);
                    break;
                case BEST:
                    told[i] = i < 9 ? object.bestAt(i - 1) : 0;
                    break;
                case MORE:
                    told[i] = i < 14 ? object.moreAt(i - 1) : 0;
                    break;
                case HOOKS:
                    told[i] = i < 8 ? object.hookAt(i - 1) : 0;
                    break;
                case FIRE:
                    told[i] = i == 0 ? object.out() : object.fireAt(i % 6, i / 6 % 2, i / 6);
                    break;
                default:
                    told[i] = i < 5 ? object.aimAt(i - 1) : 0;
            }
        }
        return told;
    }

    private void callSomething() {
        int what = random.nextInt(20);
        if (what < 6) {
            tellText(what < 2 ? 0 : what < 4 ? 1 : 2);
        } else if (what < 10) {
            keepOrRestore(what < 8);
        } else if (what < 11) {
            tape = from(1, 19);
            story.append("tape; ");
            x.feed(random.nextInt(), 1, 2, 3, 4);
            Check.tape(x, new byte[tape]);
        } else if (what < 15) {
            callOnTape(from(0, 7));
        } else {
            callOffTape(from(0, 8));
        }
    }

    private void tellText(int which) {
        String[] all = which == 0 ? YARDS : which == 1 ? PLANS : SENTENCES;
        String text = all[random.nextInt(all.length)];
        story.append(text).append("; ");
        PailRow twin = twin();
        int due = read(Check.tape(twin, text), which);
        Check.due("behind " + story, read(Check.tape(x, text), which), due);
        tape = 0;
        latest[FAULT] = toldLast(twin, FAULT);
        if (due >= 0) {
            texts = which == 0 ? new String[] {text, null, null} : texts.clone();
            texts[which] = text;
        }
    }

    private void keepOrRestore(boolean keep) {
        int k = random.nextInt(10) == 0 ? 3 * from(0, 1) - 1 : from(0, 1);
        story.append(keep ? "image " : "restore ").append(k).append("; ");
        boolean place = k == 0 || k == 1;
        if (keep) {
            Check.due("behind " + story, x.image(k), place);
            if (place) {
                kept[k] = texts.clone();
            }
            return;
        }
        boolean due = place && kept[k] != null;
        Check.due("behind " + story, x.restore(k), due);
        if (due) {
            texts = kept[k].clone();
        }
    }

    private void callOnTape(int call) {
        int most = Math.max(1, x.count(0));
        int[] men = random.ints(30, 0, most + random.nextInt(20) / 19).distinct().limit(from(1, 7)).toArray();
        int number = random.nextInt(8) == 0 ? -1 : from(0, 300);
        if (call == HOOKS) {
            Arrays.sort(men);
            number = from(0, 7);
        } else if (call == MORE) {
            number = from(-1, 10);
        }
        story.append("on tape ").append(call).append(' ').append(number).append(Arrays.toString(men)).append("; ");
        PailRow twin = twin();
        long due = onTape(Check.men(twin, men), call, number);
        Check.due("behind " + story, onTape(Check.men(x, men), call, number), due);
        tape = due == Check.NO_SUCH ? men.length : 0;
        if (call >= ROW && call <= HOOKS && due != PailRow.NONE) {
            latest[call] = toldLast(twin, call);
        }
    }

    private static long onTape(PailRow object, int call, int number) {
        switch (call) {
            case ROW: return object.row(number);
            case BEST: return object.best();
            case MORE: return object.more(number);
            case HOOKS: return object.hooks(number);
            case 5: return object.running(number);
            case 6: return object.relief();
            case 7: return Check.answerOf(() -> object.cost(number / 70, number));
            default: return object.period();
        }
    }

    private void callOffTape(int call) {
        int number = from(-1, 130);
        int other = from(-1, 4);
        story.append("off tape ").append(call).append(' ').append(number).append(' ').append(other).append("; ");
        PailRow twin = twin();
        long due = offTape(twin, call, number, other);
        Check.due("behind " + story, offTape(x, call, number, other), due);
        int kind = call <= 2 ? FIRE : call <= 4 ? AIMS : NO_KIND;
        if (kind != NO_KIND && due != PailRow.NONE) {
            latest[kind] = toldLast(twin, kind);
        }
    }

    private static long offTape(PailRow object, int call, int number, int other) {
        switch (call) {
            case 0:
            case 1:
            case 2: return object.fire(number / 10, number, call == 2 ? 100 + other : other, other);
            case 3:
            case 4: return object.aims(other, number);
            case 5: return object.give(number);
            case 6: return object.enough(other, number / 4);
            case 7: return object.line(number * 4);
            default: return object.said(number / 3);
        }
    }

    /** What the texts tell, and the tape. */
    private void compareState() {
        PailRow twin = twin();
        for (int what = 0; what <= 6; what++) {
            Check.due("count(" + what + ") behind " + story, x.count(what), what == 5 ? tape : twin.count(what));
        }
        int m = from(0, 59);
        int what = from(0, 3);
        Check.due("night(" + m + ", " + what + ") behind " + story, x.night(m, what), twin.night(m, what));
        Check.due("said(-1) behind " + story, x.said(PailRow.NONE), twin.said(PailRow.NONE));
    }

    private void compareLatest() {
        for (int kind = 0; kind < KINDS; kind++) {
            int[] told = toldLast(x, kind);
            for (int i = 0; i < told.length; i++) {
                Check.due("told last " + kind + " " + i + " behind " + story, told[i], latest[kind][i]);
            }
        }
        PailRow twin = twin();
        for (int m = -1; m < 5; m++) {
            for (int what = 0; what < 3; what++) {
                int man = m;
                int of = what;
                Check.due("man behind " + story, Check.answerOf(() -> x.man(man, of)),
                        Check.answerOf(() -> twin.man(man, of)));
                Check.due("cell behind " + story, Check.answerOf(() -> x.cell(man, of, 0)),
                        Check.answerOf(() -> twin.cell(man, of, 0)));
            }
        }
    }
}
