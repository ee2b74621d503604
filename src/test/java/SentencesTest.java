import java.util.Random;

/** Promises 31 and 32: sentences made at random, each beside what it is to say of every minute. */
public final class SentencesTest {
    private static final String YARD =
            "man al 2 3 5;man bo 1 2 9;way 20;pails 3 10;well 4 900;cells 999;cells 595;burn 0 0;wind east;";
    private static final String PLAN = "at 2 row al bo;at 9 stop;at 15 run bo al;at 17 give 2;at 40 stop;";
    private static final String[] MEASURES = {"thrown", "lost", "burns", "water", "minute"};

    private final Random random;
    private final PailRow x;
    private final StringBuilder text = new StringBuilder();
    private int ones = 0;

    private SentencesTest(long seed) {
        random = new Random(seed);
        x = Check.yard(YARD);
        Check.due("plan()", Check.tape(x, PLAN).plan(), 5);
    }

    public static void main(String[] args) {
        int tried = 0;
        for (int seed = 0; tried < 300; seed++) {
            SentencesTest test = new SentencesTest(seed);
            boolean[] truth = test.any(1);
            if (test.ones <= 20 && test.text.length() <= 200) {
                tried++;
                test.compare(truth);
            }
        }
        Check.end();
    }

    private void compare(boolean[] truth) {
        Check.due("sentence() of " + text, Check.tape(x, text.toString()).sentence(), ones);
        int minutes = 0;
        for (int m = 0; m < 60; m++) {
            if (truth[m]) {
                Check.due("said(" + minutes + ") of " + text, x.said(minutes), m);
                minutes++;
            }
        }
        Check.due("said(-1) of " + text, x.said(-1), minutes);
        Check.due("said(" + minutes + ") of " + text, x.said(minutes), PailRow.NONE);
    }

    private boolean[] any(int depth) {
        boolean[] truth = all(depth);
        for (int i = random.nextInt(3); i > 0; i--) {
            text.append(" or ");
            boolean[] other = all(depth);
            for (int m = 0; m < 60; m++) {
                truth[m] |= other[m];
            }
        }
        return truth;
    }

    private boolean[] all(int depth) {
        boolean[] truth = one(depth);
        for (int i = random.nextInt(3); i > 0; i--) {
            text.append(random.nextBoolean() ? " and " : "\nand\n");
            boolean[] other = one(depth);
            for (int m = 0; m < 60; m++) {
                truth[m] &= other[m];
            }
        }
        return truth;
    }

    private boolean[] one(int depth) {
        ones++;
        int kind = depth < 8 ? random.nextInt(5) : 2 + random.nextInt(3);
        boolean[] truth = new boolean[60];
        if (kind == 0) {
            text.append("not ");
            boolean[] other = one(depth + 1);
            for (int m = 0; m < 60; m++) {
                truth[m] = !other[m];
            }
            return truth;
        }
        if (kind == 1) {
            text.append('(');
            truth = any(depth + 1);
            text.append(')');
            return truth;
        }
        if (kind == 2) {
            text.append("out");
            for (int m = 0; m < 60; m++) {
                truth[m] = x.night(m, 2) == 0;
            }
            return truth;
        }
        int what = random.nextInt(MEASURES.length);
        char sign = "<=>".charAt(random.nextInt(3));
        int at = random.nextInt(60);
        int number = what == 4 ? at : x.night(at, what);
        text.append(MEASURES[what]).append(sign).append(number);
        for (int m = 0; m < 60; m++) {
            int measure = what == 4 ? m : x.night(m, what);
            truth[m] = sign == '<' ? measure < number : sign == '=' ? measure == number : measure > number;
        }
        return truth;
    }
}
