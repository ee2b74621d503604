import java.nio.charset.StandardCharsets;
import java.util.ArrayList;
import java.util.Arrays;
import java.util.List;
import java.util.Map;
import java.util.Random;
import java.util.Set;
import java.util.TreeMap;
import java.util.TreeSet;
import java.util.regex.Matcher;
import java.util.regex.Pattern;

/**
 * Promises 4 to 7, 29, 31 and 32: texts at random, most of them with a fault somewhere, each against a reader that
 * is written apart from the class: all TOKENS first, then what they tell.
 */
public final class FaultsTest {
    private static final int SEEDS = 9000;
    private static final Set<String> TOLD = Set.of(("man way pails well spill back throw cells burn wind north east south"
            + " west at row run stop aim give or and not out minute thrown lost burns water").split(" "));
    /** The numbers of the lines that have numbers alone: least and most of each. */
    private static final Map<String, int[]> RANGES = Map.of("way", new int[] {10, 99}, "pails", new int[] {1, 30, 1, 20},
            "well", new int[] {1, 30, 0, 9999}, "spill", new int[] {0, 99}, "back", new int[] {1, 99},
            "throw", new int[] {1, 9});
    private static final int[] MAN = {1, 9, 1, 9, 1, 99};
    private static final String[] WINDS = {"north", "east", "south", "west"};
    private static final String[] NAMES = {"a", "b", "c", "al", "bo", "cy", "zzzzzz", "aaaaaa", "men", "wat", "lin", "ats",
        "rowe", "x", "y", "z"};
    private static final String[] ODD = {"abcdefg", "a1", "1a", "123456789", "12345678", "0", "1", "9", "10", "99", "100",
        "700", "00000001", ".", "!", "A", "\t", "\u00e9", "-", "<", "=", ">", "(", ")", ";", "al", "zed", "man", "way",
        "cells", "burn", "wind", "east", "at", "row", "run", "stop", "aim", "give", "or", "and", "not", "out", "lost",
        "throw"};

    private final Random random;
    private final PailRow x = new PailRow();
    private final int[][] night = new int[4][];
    private YardModel yard = new YardModel();
    private int things = 0;

    private FaultsTest(long seed) {
        random = new Random(seed);
    }

    public static void main(String[] args) {
        for (int seed = 0; seed < SEEDS; seed++) {
            FaultsTest test = new FaultsTest(seed);
            for (int i = 0; i < 2; i++) {
                test.tryYard();
                test.tryPlan();
                test.tryPlan();
                test.trySentence();
            }
        }
        Check.end();
    }

    // The reader.

    private static final class Fault extends RuntimeException {
        private static final long serialVersionUID = 1;
        private final int kind;
        private final int place;

        Fault(int kind, int place) {
            this.kind = kind;
            this.place = place;
        }
    }

    private record Token(char kind, String text, int place) {
    }

    private static final class Reader {
        private final List<Token> tokens = new ArrayList<>();
        private int at = 0;

        Reader(String text, int limit) {
            Matcher matcher = Pattern.compile("[a-z0-9]+|[^a-z0-9 \n]").matcher(text);
            while (matcher.find()) {
                if (matcher.start() < limit) {
                    tokens.add(new Token(kindOf(matcher.group()), matcher.group(), matcher.start()));
                }
            }
            tokens.add(text.length() > limit ? new Token('x', "", limit) : new Token('e', "", text.length()));
        }

        private static char kindOf(String text) {
            if (text.matches("[a-z]{1,6}")) {
                return 'w';
            }
            return text.matches("[0-9]{1,8}") ? 'n' : text.matches("[;<=>()]") ? 's' : 'x';
        }

        Token look() {
            return tokens.get(at);
        }

        boolean looksAt(String text) {
            return look().kind() != 'x' && look().text().equals(text);
        }

        boolean atEnd() {
            return look().kind() == 'e';
        }

        Token take() {
            return tokens.get(at++);
        }

        Fault fault(int kind) {
            return new Fault(kind, look().place());
        }

        void take(String text) {
            if (!looksAt(text)) {
                throw fault(1);
            }
            at++;
        }

        Token takeKind(char kind) {
            if (look().kind() != kind) {
                throw fault(1);
            }
            return take();
        }

        int number(int least, int most) {
            Token token = takeKind('n');
            int value = Integer.parseInt(token.text());
            if (value < least || value > most) {
                throw new Fault(2, token.place());
            }
            return value;
        }
    }

    private static final class YardModel {
        private final List<String> names = new ArrayList<>();
        private final List<int[]> men = new ArrayList<>();
        private final List<String> rows = new ArrayList<>();
        private final Set<String> burning = new TreeSet<>();
        private final Map<String, int[]> once = new TreeMap<>();
        private int lines = 0;

        int columns() {
            return rows.isEmpty() ? 0 : rows.get(0).length();
        }

        static YardModel read(Reader reader) {
            YardModel yard = new YardModel();
            while (!reader.atEnd()) {
                yard.readLine(reader);
                reader.take(";");
                yard.lines++;
            }
            return yard;
        }

        private void readLine(Reader reader) {
            String word = reader.look().kind() == 'w' ? reader.look().text() : "";
            if (word.equals("man")) {
                readMan(reader);
            } else if (word.equals("cells")) {
                readCells(reader);
            } else if (word.equals("burn")) {
                readBurn(reader);
            } else if (word.equals("wind") || RANGES.containsKey(word)) {
                readOnce(reader, word);
            } else {
                throw reader.fault(1);
            }
        }

        private void readMan(Reader reader) {
            if (men.size() == 12) {
                throw reader.fault(4);
            }
            reader.take();
            Token name = reader.takeKind('w');
            if (TOLD.contains(name.text())) {
                throw new Fault(1, name.place());
            }
            if (names.contains(name.text())) {
                throw new Fault(3, name.place());
            }
            men.add(numbers(reader, MAN));
            names.add(name.text());
        }

        private static int[] numbers(Reader reader, int[] ranges) {
            int[] numbers = new int[ranges.length / 2];
            for (int i = 0; i < numbers.length; i++) {
                numbers[i] = reader.number(ranges[2 * i], ranges[2 * i + 1]);
            }
            return numbers;
        }

        private void readCells(Reader reader) {
            if (rows.size() == 8) {
                throw reader.fault(4);
            }
            reader.take();
            Token row = reader.takeKind('n');
            if (!rows.isEmpty() && row.text().length() != columns()) {
                throw new Fault(2, row.place());
            }
            rows.add(row.text());
        }

        private void readBurn(Reader reader) {
            reader.take();
            int column = reader.number(0, columns() - 1);
            Token place = reader.look();
            int y = reader.number(0, rows.size() - 1);
            if (rows.get(y).charAt(column) == '0') {
                throw new Fault(2, place.place());
            }
            if (!burning.add(column + " " + y)) {
                throw new Fault(3, place.place());
            }
        }

        private void readOnce(Reader reader, String word) {
            if (once.containsKey(word)) {
                throw reader.fault(3);
            }
            reader.take();
            if (!word.equals("wind")) {
                once.put(word, numbers(reader, RANGES.get(word)));
                return;
            }
            if (!Arrays.asList(WINDS).contains(reader.look().text())) {
                throw reader.fault(1);
            }
            reader.take();
            once.put(word, new int[0]);
        }
    }

    /** How many things are told. */
    private static int readPlan(Reader reader, YardModel yard) {
        int told = 0;
        int minute = 0;
        while (!reader.atEnd()) {
            if (!reader.looksAt("at")) {
                throw reader.fault(1);
            }
            if (told == 20) {
                throw reader.fault(4);
            }
            reader.take();
            minute = reader.number(minute, 59);
            readThing(reader, yard);
            reader.take(";");
            told++;
        }
        return told;
    }

    private static void readThing(Reader reader, YardModel yard) {
        Token word = reader.takeKind('w');
        switch (word.text()) {
            case "stop":
                break;
            case "row":
                readMen(reader, yard, 2);
                break;
            case "run":
                readMen(reader, yard, 1);
                break;
            case "give":
                reader.number(0, yard.columns() - 1);
                break;
            case "aim":
                Token aim = reader.look();
                int number = reader.number(0, 177);
                int y = (number - 100) / 10;
                boolean cell = number >= 100 && y < yard.rows.size() && number % 10 < yard.columns();
                if (number > 3 && !cell) {
                    throw new Fault(2, aim.place());
                }
                break;
            default:
                throw new Fault(1, word.place());
        }
    }

    private static void readMen(Reader reader, YardModel yard, int least) {
        Set<String> stand = new TreeSet<>();
        while (stand.size() < least || !reader.looksAt(";")) {
            Token man = reader.takeKind('w');
            if (TOLD.contains(man.text())) {
                throw new Fault(1, man.place());
            }
            if (!yard.names.contains(man.text()) || !stand.add(man.text())) {
                throw new Fault(3, man.place());
            }
        }
    }

    private final class SentenceModel {
        private final Reader reader;
        private int ones = 0;

        SentenceModel(Reader reader) {
            this.reader = reader;
        }

        boolean[] whole() {
            boolean[] truth = any(1);
            reader.takeKind('e');
            return truth;
        }

        private boolean[] any(int depth) {
            boolean[] truth = all(depth);
            while (reader.looksAt("or")) {
                reader.take();
                boolean[] other = all(depth);
                for (int m = 0; m < 60; m++) {
                    truth[m] |= other[m];
                }
            }
            return truth;
        }

        private boolean[] all(int depth) {
            boolean[] truth = one(depth);
            while (reader.looksAt("and")) {
                reader.take();
                boolean[] other = one(depth);
                for (int m = 0; m < 60; m++) {
                    truth[m] &= other[m];
                }
            }
            return truth;
        }

        private boolean[] one(int depth) {
            String first = reader.look().text();
            if (!List.of("not", "(", "out", "minute", "thrown", "lost", "burns", "water").contains(first)) {
                throw reader.fault(1);
            }
            if (ones == 20 || depth == 9) {
                throw reader.fault(4);
            }
            ones++;
            reader.take();
            if (first.equals("(")) {
                boolean[] truth = any(depth + 1);
                reader.take(")");
                return truth;
            }
            boolean[] truth = new boolean[60];
            if (first.equals("not")) {
                boolean[] other = one(depth + 1);
                for (int m = 0; m < 60; m++) {
                    truth[m] = !other[m];
                }
                return truth;
            }
            String sign = first.equals("out") ? "=" : reader.look().text();
            if (!first.equals("out")) {
                if (!List.of("<", "=", ">").contains(sign)) {
                    throw reader.fault(1);
                }
                reader.take();
            }
            int number = first.equals("out") ? 0 : reader.number(0, Integer.MAX_VALUE);
            for (int m = 0; m < 60; m++) {
                int sides = Integer.compare(measure(first, m), number);
                truth[m] = sign.equals("<") ? sides < 0 : sign.equals("=") ? sides == 0 : sides > 0;
            }
            return truth;
        }

        private int measure(String what, int m) {
            switch (what) {
                case "minute": return m;
                case "thrown": return ofNight(m, 0);
                case "lost": return ofNight(m, 1);
                case "water": return ofNight(m, 3);
                default: return ofNight(m, 2);
            }
        }
    }

    /** An object is good for 512 calls alone: the night is asked once. */
    private int ofNight(int m, int what) {
        if (night[what] == null) {
            night[what] = new int[60];
            for (int minute = 0; minute < 60; minute++) {
                night[what][minute] = x.night(minute, what);
            }
        }
        return night[what][m];
    }

    // What is tried.

    private void tryYard() {
        String text = written(yardTokens(), 700);
        int due;
        int fault = 0;
        try {
            YardModel read = YardModel.read(new Reader(text, 700));
            yard = read;
            things = 0;
            due = read.lines;
        } catch (Fault e) {
            due = -1 - e.place;
            fault = e.kind;
        }
        Check.promise(4);
        Check.due("yard() of " + shown(text), put(text).yard(), due);
        Check.promise(5);
        Check.due("fault() behind the yard " + shown(text), x.fault(), fault);
        dueAsTold(text);
    }

    /** The yard is as it was told last without a fault. */
    private void dueAsTold(String text) {
        Check.promise(35);
        int[] counts = {yard.men.size(), yard.columns(), yard.rows.size(),
            yard.once.containsKey("pails") ? yard.once.get("pails")[0] : 6, things, 0,
            yard.once.containsKey("way") ? yard.once.get("way")[0] : 30};
        for (int what = 0; what < counts.length; what++) {
            Check.due("count(" + what + ") behind " + shown(text), x.count(what), counts[what]);
        }
        Check.promise(6);
        for (int m = 0; m < yard.men.size(); m++) {
            for (int what = 0; what < 3; what++) {
                Check.due("man(" + m + ", " + what + ") behind " + shown(text), x.man(m, what), yard.men.get(m)[what]);
            }
        }
        Check.promise(7);
        for (int y = 0; y < yard.rows.size(); y++) {
            for (int c = 0; c < yard.columns(); c++) {
                int burns = yard.burning.contains(c + " " + y) ? 1 : 0;
                Check.due("FUEL of " + c + " " + y + " behind " + shown(text), x.cell(c, y, 0),
                        yard.rows.get(y).charAt(c) - '0');
                Check.due("burning of " + c + " " + y + " behind " + shown(text), x.cell(c, y, 1), burns);
            }
        }
    }

    private void tryPlan() {
        String text = written(planTokens(), 400);
        int due;
        int fault = 0;
        try {
            due = readPlan(new Reader(text, 400), yard);
            things = due;
        } catch (Fault e) {
            due = -1 - e.place;
            fault = e.kind;
        }
        Check.promise(29);
        Check.due("plan() of " + shown(text), put(text).plan(), due);
        Check.due("fault() behind the plan " + shown(text), x.fault(), fault);
        Check.due("count(4) behind the plan " + shown(text), x.count(4), things);
    }

    private void trySentence() {
        Arrays.fill(night, null);
        String text = written(sentenceTokens(), 200);
        SentenceModel sentence = new SentenceModel(new Reader(text, 200));
        boolean[] truth = null;
        int due;
        int fault = 0;
        try {
            truth = sentence.whole();
            due = sentence.ones;
        } catch (Fault e) {
            due = -1 - e.place;
            fault = e.kind;
        }
        Check.promise(31);
        int before = x.said(PailRow.NONE);
        Check.due("sentence() of " + shown(text), put(text).sentence(), due);
        Check.due("fault() behind the sentence " + shown(text), x.fault(), fault);
        Check.promise(32);
        int minutes = 0;
        for (int m = 0; truth != null && m < 60; m++) {
            if (truth[m]) {
                Check.due("said(" + minutes + ") of " + shown(text), x.said(minutes), m);
                minutes++;
            }
        }
        Check.due("said(-1) behind " + shown(text), x.said(PailRow.NONE), truth == null ? before : minutes);
    }

    private PailRow put(String text) {
        return Check.tape(x, text);
    }

    private static String shown(String text) {
        return "\"" + text.replace("\n", "\\n") + "\"";
    }

    // How the texts are made.

    private int from(int least, int most) {
        return least + random.nextInt(most - least + 1);
    }

    private String oneOf(String[] words) {
        return words[random.nextInt(words.length)];
    }

    /** Mostly as told, now and then just beyond. */
    private String numberFrom(int least, int most) {
        switch (random.nextInt(30)) {
            case 0: return "" + (most + 1);
            case 1: return "" + Math.max(0, least - 1);
            case 2: return "0" + most;
            case 3: return "" + most;
            case 4: return "" + least;
            default: return "" + from(least, most);
        }
    }

    private void addLine(List<String> tokens, String... line) {
        tokens.addAll(Arrays.asList(line));
        tokens.add(";");
    }

    private List<String> yardTokens() {
        List<String> tokens = new ArrayList<>();
        List<String> names = new ArrayList<>(Arrays.asList(NAMES));
        for (int i = random.nextInt(12) == 0 ? from(11, 14) : from(0, 5); i > 0; i--) {
            String name = names.remove(random.nextInt(names.size()));
            addLine(tokens, "man", random.nextInt(60) == 0 ? "al" : name, numberFrom(1, 9), numberFrom(1, 9),
                    numberFrom(1, 99));
        }
        List<String> once = new ArrayList<>(List.of("way", "pails", "well", "spill", "back", "throw", "wind"));
        for (int i = from(0, 4); i > 0; i--) {
            String word = random.nextInt(30) == 0 ? "way" : once.remove(random.nextInt(once.size()));
            addOnce(tokens, word);
        }
        int columns = from(1, 8);
        int rows = random.nextInt(12) == 0 ? from(7, 10) : from(0, 4);
        for (int y = 0; y < rows; y++) {
            int digits = random.nextInt(40) == 0 ? from(1, 9) : columns;
            StringBuilder row = new StringBuilder();
            for (int c = 0; c < digits; c++) {
                row.append((char) ('0' + from(random.nextInt(4) == 0 ? 0 : 3, 9)));
            }
            addLine(tokens, "cells", row.toString());
        }
        for (int i = from(0, rows == 0 ? random.nextInt(10) / 9 : 4); i > 0; i--) {
            addLine(tokens, "burn", numberFrom(0, columns - 1), numberFrom(0, Math.max(0, rows - 1)));
        }
        return tokens;
    }

    private void addOnce(List<String> tokens, String word) {
        tokens.add(word);
        if (word.equals("wind")) {
            tokens.add(oneOf(WINDS));
        } else {
            int[] ranges = RANGES.get(word);
            for (int i = 0; i < ranges.length; i += 2) {
                tokens.add(numberFrom(ranges[i], ranges[i + 1]));
            }
        }
        tokens.add(";");
    }

    private List<String> planTokens() {
        List<String> tokens = new ArrayList<>();
        int minute = 0;
        boolean many = random.nextInt(10) == 0;
        for (int i = many ? from(19, 22) : from(0, 6); i > 0; i--) {
            minute = Math.max(0, Math.min(59, minute + from(random.nextInt(many ? 100 : 10) == 0 ? -1 : 0, 4)));
            tokens.add("at");
            tokens.add(random.nextInt(100) == 0 ? "60" : "" + minute);
            addThing(tokens, many ? "stop" : someThing());
            tokens.add(";");
        }
        return tokens;
    }

    /** Mostly what the yard has men or columns for. */
    private String someThing() {
        List<String> words = new ArrayList<>(List.of("stop", "aim"));
        boolean anything = random.nextInt(10) == 0;
        if (anything || yard.names.size() >= 2) {
            words.addAll(List.of("row", "run"));
        }
        if (anything || yard.columns() > 0) {
            words.add("give");
        }
        return words.get(random.nextInt(words.size()));
    }

    private void addThing(List<String> tokens, String word) {
        tokens.add(word);
        if (word.equals("row") || word.equals("run")) {
            addMen(tokens, word.equals("row") ? 2 : 1);
        } else if (word.equals("give")) {
            tokens.add(numberFrom(0, Math.max(0, yard.columns() - 1)));
        } else if (word.equals("aim")) {
            int beyond = random.nextInt(20) == 0 ? 0 : 1;
            int y = from(0, Math.max(0, yard.rows.size() - beyond));
            int c = from(0, Math.max(0, yard.columns() - beyond));
            boolean cell = yard.columns() > 0 && random.nextInt(3) > 0;
            tokens.add(cell ? "" + (100 + 10 * y + c) : numberFrom(0, 3));
        }
    }

    private void addMen(List<String> tokens, int least) {
        List<String> names = new ArrayList<>(yard.names);
        int count = random.nextInt(12) == 0 ? from(0, 13) : from(least, least + 2);
        for (int i = 0; i < count; i++) {
            boolean known = !names.isEmpty() && random.nextInt(30) > 0;
            tokens.add(known ? names.remove(random.nextInt(names.size())) : oneOf(NAMES));
        }
    }

    private List<String> sentenceTokens() {
        List<String> tokens = new ArrayList<>();
        addCondition(tokens, random.nextInt(4) == 0 ? from(7, 9) : from(1, 4));
        for (int i = random.nextInt(6) == 0 ? from(10, 20) : 0; i > 0; i--) {
            tokens.add(random.nextBoolean() ? "or" : "and");
            addOne(tokens, 1);
        }
        return tokens;
    }

    private void addCondition(List<String> tokens, int depth) {
        addOne(tokens, depth);
        for (int i = random.nextInt(3); i > 0; i--) {
            tokens.add(random.nextBoolean() ? "or" : "and");
            addOne(tokens, random.nextInt(3));
        }
    }

    /** A ONE with so many others within, or a little fewer. */
    private void addOne(List<String> tokens, int depth) {
        if (depth > 1 && random.nextInt(8) > 0) {
            boolean bracket = random.nextBoolean();
            tokens.add(bracket ? "(" : "not");
            if (bracket && random.nextInt(3) == 0) {
                addCondition(tokens, depth - 1);
            } else {
                addOne(tokens, depth - 1);
            }
            if (bracket) {
                tokens.add(")");
            }
            return;
        }
        if (random.nextInt(3) == 0) {
            tokens.add("out");
            return;
        }
        int what = random.nextInt(5);
        tokens.add(new String[] {"minute", "thrown", "lost", "burns", "water"}[what]);
        tokens.add(new String[] {"<", "=", ">"}[random.nextInt(3)]);
        tokens.add("" + (what == 0 ? from(0, 60) : ofNight(from(0, 59), what == 4 ? 3 : what - 1)));
    }

    /** The tokens as a text, half of the times with a slip in it, sometimes about as long as a text may be. */
    private String written(List<String> tokens, int limit) {
        if (random.nextBoolean() && !tokens.isEmpty()) {
            slip(tokens);
        }
        List<String> parts = new ArrayList<>();
        String before = "";
        for (String token : tokens) {
            boolean joined = !before.isEmpty() && isLong(before) && isLong(token) && random.nextInt(200) > 0;
            String blank = random.nextInt(4) > 0 ? "" : random.nextBoolean() ? "\n" : "  ";
            parts.add(joined && blank.isEmpty() ? " " : blank);
            parts.add(token);
            before = token;
        }
        parts.add(random.nextInt(4) > 0 ? "" : " \n");
        String text = String.join("", parts);
        if (random.nextInt(4) == 0) {
            int length = limit + from(-4, 12);
            int at = random.nextBoolean() ? parts.size() - 1 : 2 * random.nextInt((parts.size() + 1) / 2);
            if (at > 0 && length > text.length()) {
                parts.set(at, parts.get(at) + " ".repeat(length - text.length()));
                text = String.join("", parts);
            }
        }
        int most = Math.min(740, text.length());
        return new String(text.substring(0, most).getBytes(StandardCharsets.ISO_8859_1), StandardCharsets.ISO_8859_1);
    }

    private static boolean isLong(String token) {
        return token.matches("[a-z0-9]+");
    }

    private void slip(List<String> tokens) {
        int at = random.nextInt(tokens.size());
        int other = random.nextInt(tokens.size());
        switch (random.nextInt(6)) {
            case 0:
                tokens.remove(at);
                break;
            case 1:
                tokens.add(at, oneOf(ODD));
                break;
            case 2:
                tokens.set(at, oneOf(ODD));
                break;
            case 3:
                tokens.add(at, tokens.get(other));
                break;
            case 4:
                tokens.set(at, tokens.set(other, tokens.get(at)));
                break;
            default:
                tokens.subList(at, tokens.size()).clear();
        }
    }
}
