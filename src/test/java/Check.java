import java.nio.charset.StandardCharsets;
import java.util.NoSuchElementException;

/** What the tests share: counting wrong answers, and putting texts and bytes on a tape. */
final class Check {
    /** What dueRange asks of a call that throws NoSuchElementException. */
    static final long NO_SUCH = Long.MIN_VALUE;

    /** Numbers far off, and those that a cut to eight or sixteen bits would bring near. */
    private static final int[] FAR = {Integer.MIN_VALUE, Integer.MIN_VALUE + 1, -65536, -256, -1000, 65536, 1 << 24,
        Integer.MAX_VALUE - 1, Integer.MAX_VALUE};

    private static int wrong = 0;
    private static int asked = 0;
    private static String promise = "";

    private Check() {
    }

    interface Call {
        long answer();
    }

    interface CallOf {
        long answer(int number);
    }

    /** What is due from here on belongs to this promise of the document. */
    static void promise(int number) {
        promise = "promise " + number + ": ";
    }

    static void due(String what, long got, long want) {
        asked++;
        if (got != want) {
            wrong++;
            System.out.println(promise + what + " answered " + got + ", due is " + want);
        }
    }

    /** What a call answers; NO_SUCH, if it throws NoSuchElementException. */
    static long answerOf(Call call) {
        try {
            return call.answer();
        } catch (NoSuchElementException e) {
            return NO_SUCH;
        }
    }

    /** A call takes the numbers from least to most, and refuses the next ones on both sides and those far off. */
    static void dueRange(String what, int least, int most, long refusal, CallOf call) {
        for (int number : new int[] {least, most}) {
            boolean refused = answerOf(() -> call.answer(number)) == refusal;
            due(what + " of " + number + " is refused", refused, false);
        }
        due(what + " of " + (least - 1), answerOf(() -> call.answer(least - 1)), refusal);
        due(what + " of " + (most + 1), answerOf(() -> call.answer(most + 1)), refusal);
        for (int number : FAR) {
            due(what + " of " + number, answerOf(() -> call.answer(number)), refusal);
        }
    }

    /** Men or houses from 0 on. */
    static int[] rising(int count) {
        int[] numbers = new int[count];
        for (int i = 0; i < count; i++) {
            numbers[i] = i;
        }
        return numbers;
    }

    /** The lines of so many men, ma, mb, .., all alike: 1 TICK, 1 yard a TICK, and a power. */
    static String alike(int count, int power) {
        StringBuilder lines = new StringBuilder();
        for (int m = 0; m < count; m++) {
            lines.append("man m").append((char) ('a' + m)).append(" 1 1 ").append(power).append(';');
        }
        return lines.toString();
    }

    /** A text with blanks behind it, so that it has so many bytes. */
    static String padded(String text, int length) {
        StringBuilder all = new StringBuilder(text);
        while (all.length() < length) {
            all.append(' ');
        }
        return all.toString();
    }

    static void due(String what, boolean got, boolean want) {
        due(what, got ? 1 : 0, want ? 1 : 0);
    }

    static void dueNoSuch(String what, Call call) {
        asked++;
        try {
            long got = call.answer();
            wrong++;
            System.out.println(promise + what + " answered " + got + ", due is NoSuchElementException");
        } catch (NoSuchElementException e) {
            return;
        }
    }

    static void end() {
        System.out.println(asked + " answers asked, " + wrong + " wrong");
        if (wrong != 0) {
            System.exit(1);
        }
    }

    /** Puts bytes on an empty tape. */
    static PailRow tape(PailRow x, byte[] bytes) {
        x.end(0);
        for (int at = 0; at < bytes.length; at += 20) {
            int[] five = new int[5];
            for (int i = 0; i < 20; i++) {
                int b = at + i < bytes.length ? bytes[at + i] & 255 : 0;
                five[i / 4] |= b << (24 - 8 * (i % 4));
            }
            x.feed(five[0], five[1], five[2], five[3], five[4]);
        }
        x.end(bytes.length);
        return x;
    }

    static PailRow tape(PailRow x, String text) {
        return tape(x, text.getBytes(StandardCharsets.ISO_8859_1));
    }

    static PailRow men(PailRow x, int... numbers) {
        byte[] bytes = new byte[numbers.length];
        for (int i = 0; i < numbers.length; i++) {
            bytes[i] = (byte) numbers[i];
        }
        return tape(x, bytes);
    }

    /** A new object with a yard that has no fault. */
    static PailRow yard(String text) {
        PailRow x = new PailRow();
        int lines = tape(x, text).yard();
        if (lines < 0) {
            due("yard " + text, lines, 0);
        }
        return x;
    }

    static void dueYard(String text, int answer, int fault) {
        dueYard(new PailRow(), text, answer, fault);
    }

    static void dueYard(PailRow x, String text, int answer, int fault) {
        due("yard() of \"" + text + "\"", tape(x, text).yard(), answer);
        due("fault() behind it", x.fault(), fault);
        due("count(5) behind it", x.count(5), 0);
    }

    static void duePlan(PailRow x, String text, int answer, int fault) {
        due("plan() of \"" + text + "\"", tape(x, text).plan(), answer);
        due("fault() behind it", x.fault(), fault);
        due("count(5) behind it", x.count(5), 0);
    }

    static void dueSentence(PailRow x, String text, int answer, int fault) {
        due("sentence() of \"" + text + "\"", tape(x, text).sentence(), answer);
        due("fault() behind it", x.fault(), fault);
        due("count(5) behind it", x.count(5), 0);
    }
}
