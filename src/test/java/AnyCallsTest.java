import java.util.NoSuchElementException;
import java.util.Random;

/** Calls at random, with arguments of all kinds: none throws but the three that may, and as they may. */
public final class AnyCallsTest {
    private static final String[] TOKENS = {"man ", "way ", "pails ", "well ", "spill ", "back ", "throw ", "cells ",
        "burn ", "wind ", "north ", "east ", "south ", "west ", "at ", "row ", "run ", "stop ", "aim ", "give ", "or ",
        "and ", "not ", "out ", "minute ", "thrown ", "lost ", "burns ", "water ", "al ", "bo ", "cy ", ";", ";", ";",
        "<", "=", ">", "(", ")", ".", "0 ", "1 ", "2 ", "3 ", "5 ", "9 ", "20 ", "100 ", "99999 ", "\n", "x1 "};
    private static final String[] LINES = {"man al 1 2 3;", "man bo 4 5 6;", "man cy 9 9 1;", "way 10;", "pails 1 1;",
        "well 30 0;", "spill 99;", "back 99;", "throw 9;", "cells 999;", "cells 012;", "cells 99999999;", "burn 0 0;",
        "burn 2 0;", "wind east;", "at 0 row al bo;", "at 5 run cy;", "at 59 stop;", "at 3 aim 100;", "at 3 give 0;"};

    private final Random random;
    private final PailRow x = new PailRow();

    private AnyCallsTest(long seed) {
        random = new Random(seed);
    }

    public static void main(String[] args) {
        for (int seed = 0; seed < 1500; seed++) {
            AnyCallsTest test = new AnyCallsTest(seed);
            for (int call = 0; call < 300; call++) {
                test.callAny(seed);
            }
        }
        Check.end();
    }

    private int number() {
        switch (random.nextInt(6)) {
            case 0: return random.nextInt();
            case 1: return random.nextInt(5000) - 500;
            case 2: return 100 + random.nextInt(80);
            default: return random.nextInt(12) - 2;
        }
    }

    private void putSomething() {
        int kind = random.nextInt(6);
        if (kind == 0) {
            x.feed(random.nextInt(), random.nextInt(), number(), number(), number());
            x.end(number());
            return;
        }
        if (kind <= 2) {
            int[] men = random.ints(random.nextInt(14), 0, random.nextBoolean() ? 12 : 3).distinct().toArray();
            Check.men(x, men);
            return;
        }
        String[] parts = kind == 3 ? TOKENS : LINES;
        StringBuilder text = new StringBuilder();
        for (int i = random.nextInt(12); i > 0; i--) {
            text.append(parts[random.nextInt(parts.length)]);
        }
        Check.tape(x, text.toString());
    }

    private void callAny(int seed) {
        putSomething();
        int which = random.nextInt(34);
        int size = x.count(5);
        boolean empties = which >= 2 && which <= 12;
        String named = "seed " + seed + " call " + which;
        try {
            call(which);
            Check.due(named + ": the tape behind it", which <= 1 || x.count(5) == (empties ? 0 : size), true);
        } catch (NoSuchElementException e) {
            Check.due(named + ": what throws leaves the tape", which >= 12 && which <= 14 && x.count(5) == size, true);
        } catch (RuntimeException e) {
            Check.due(named + " throws " + e, 1, 0);
        }
    }

    private long call(int which) {
        switch (which) {
            case 0: return x.feed(number(), number(), number(), number(), number());
            case 1: return x.end(number()) ? 1 : 0;
            case 2: return x.yard();
            case 3: return x.row(number());
            case 4: return x.period();
            case 5: return x.best();
            case 6: return x.running(number());
            case 7: return x.more(number());
            case 8: return x.relief();
            case 9: return x.hooks(number());
            case 10: return x.plan();
            case 11: return x.sentence();
            case 12: return x.cost(number(), number());
            case 13: return x.man(number(), number());
            case 14: return x.cell(number(), number(), number());
            case 15: return x.fault();
            case 16: return x.rowBy(number());
            case 17: return x.done(number());
            case 18: return x.bestAt(number());
            case 19: return x.line(number());
            case 20: return x.moreAt(number());
            case 21: return x.hookAt(number());
            case 22: return x.fire(number(), number(), number(), number());
            case 23: return x.fireAt(number(), number(), number());
            case 24: return x.out();
            case 25: return x.aims(number(), number());
            case 26: return x.aimAt(number());
            case 27: return x.give(number());
            case 28: return x.enough(number(), number());
            case 29: return x.night(number(), number());
            case 30: return x.said(number());
            case 31: return x.image(number()) ? 1 : 0;
            case 32: return x.restore(number()) ? 1 : 0;
            default: return x.count(number());
        }
    }
}
