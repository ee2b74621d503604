import java.nio.charset.StandardCharsets;
import java.util.NoSuchElementException;

/** What the tests share: counting wrong answers, and putting texts and bytes on a tape. */
final class Check {
    private static int wrong = 0;
    private static int asked = 0;

    private Check() {
    }

    interface Call {
        long answer();
    }

    static void due(String what, long got, long want) {
        asked++;
        if (got != want) {
            wrong++;
            System.out.println(what + " answered " + got + ", due is " + want);
        }
    }

    static void due(String what, boolean got, boolean want) {
        due(what, got ? 1 : 0, want ? 1 : 0);
    }

    static void dueNoSuch(String what, Call call) {
        asked++;
        try {
            long got = call.answer();
            wrong++;
            System.out.println(what + " answered " + got + ", due is NoSuchElementException");
        } catch (NoSuchElementException e) {
            return;
        }
    }

    static void end() {
        System.out.println(asked + " answers asked, " + wrong + " wrong");
        if (wrong != 0) {
            System.exit(1);
        }
    }

    /** Puts bytes on an empty tape. */
    static PailRow tape(PailRow x, byte[] bytes) {
        x.end(0);
        for (int at = 0; at < bytes.length; at += 20) {
            int[] five = new int[5];
            for (int i = 0; i < 20; i++) {
                int b = at + i < bytes.length ? bytes[at + i] & 255 : 0;
                five[i / 4] |= b << (24 - 8 * (i % 4));
            }
            x.feed(five[0], five[1], five[2], five[3], five[4]);
        }
        x.end(bytes.length);
        return x;
    }

    static PailRow tape(PailRow x, String text) {
        return tape(x, text.getBytes(StandardCharsets.ISO_8859_1));
    }

    static PailRow men(PailRow x, int... numbers) {
        byte[] bytes = new byte[numbers.length];
        for (int i = 0; i < numbers.length; i++) {
            bytes[i] = (byte) numbers[i];
        }
        return tape(x, bytes);
    }

    /** A new object with a yard that has no fault. */
    static PailRow yard(String text) {
        PailRow x = new PailRow();
        int lines = tape(x, text).yard();
        if (lines < 0) {
            due("yard " + text, lines, 0);
        }
        return x;
    }

    static void dueYard(String text, int answer, int fault) {
        dueYard(new PailRow(), text, answer, fault);
    }

    static void dueYard(PailRow x, String text, int answer, int fault) {
        due("yard() of \"" + text + "\"", tape(x, text).yard(), answer);
        due("fault() behind it", x.fault(), fault);
        due("count(5) behind it", x.count(5), 0);
    }

    static void duePlan(PailRow x, String text, int answer, int fault) {
        due("plan() of \"" + text + "\"", tape(x, text).plan(), answer);
        due("fault() behind it", x.fault(), fault);
        due("count(5) behind it", x.count(5), 0);
    }

    static void dueSentence(PailRow x, String text, int answer, int fault) {
        due("sentence() of \"" + text + "\"", tape(x, text).sentence(), answer);
        due("fault() behind it", x.fault(), fault);
        due("count(5) behind it", x.count(5), 0);
    }
}
