import java.util.NoSuchElementException;

/** Pails by hand: rows of men, running men, a fire by cells, and nights by plans. */
public final class PailRow {
    public static final int NONE = -1;

    private static final int NOT_TOLD = -2;
    private static final int MOST_TAPE = 740;
    private static final int MOST_YARD_BYTES = 700;
    private static final int MOST_PLAN_BYTES = 400;
    private static final int MOST_SENTENCE_BYTES = 200;
    private static final int MOST_MEN = 12;
    private static final int MOST_PAILS = 30;
    private static final int MOST_SIDE = 8;
    private static final int MOST_CELLS = 64;
    private static final int MOST_THINGS = 20;
    private static final int MOST_ORDERED = 7;
    private static final int MOST_OTHERS = 9;
    private static final int MOST_HOOKS = 6;
    private static final int MOST_HOUSE = 99;
    private static final int MOST_LITRES = 999;
    private static final int MOST_ENOUGH = 200;
    private static final int MOST_LATE = 20;
    private static final int MOST_AIMED = 3;
    private static final int IMAGES = 2;
    private static final int HOUR = 60;
    private static final int MOST_TICKS = 3600;
    private static final int GIVE_MINUTES = 30;
    private static final int THROWING_COSTS = 3;

    private final int[] tape;
    private int size;
    private int fault;
    private final Text text;
    private final State now;
    private final State draft;
    private final State[] kept;
    private final boolean[] keptThere;
    private final Row row;
    private final Row spareRow;
    private final Runners runners;
    private final Fire fire;
    private final Fire spareFire;
    private final AimSearch search;
    private final Night night;
    private boolean nightKnown;
    private int[] order;
    private int[] beside;
    private int[] hooked;

    public PailRow() {
        tape = new int[MOST_TAPE];
        text = new Text();
        now = new State();
        draft = new State();
        kept = new State[IMAGES];
        for (int k = 0; k < IMAGES; k++) {
            kept[k] = new State();
        }
        keptThere = new boolean[IMAGES];
        row = new Row();
        spareRow = new Row();
        runners = new Runners();
        fire = new Fire();
        spareFire = new Fire();
        search = new AimSearch();
        night = new Night();
        order = new int[0];
        beside = new int[0];
        hooked = new int[0];
    }

    // The tape.

    public int feed(int a, int b, int c, int d, int e) {
        if (size + 20 > MOST_TAPE) {
            return NONE;
        }
        append(a);
        append(b);
        append(c);
        append(d);
        append(e);
        return size;
    }

    private void append(int number) {
        for (int shift = 24; shift >= 0; shift -= 8) {
            if (size < MOST_TAPE) {
                tape[size] = (number >>> shift) & 255;
                size++;
            }
        }
    }

    public boolean end(int n) {
        if (n < 0 || n > size) {
            return false;
        }
        size = n;
        return true;
    }

    /** Whether the tape's bytes are that many unlike men of the yard. */
    private boolean menTold(int least, int most) {
        if (size < least || size > most) {
            return false;
        }
        for (int i = 0; i < size; i++) {
            if (tape[i] >= now.yard.men) {
                return false;
            }
            for (int j = 0; j < i; j++) {
                if (tape[j] == tape[i]) {
                    return false;
                }
            }
        }
        return true;
    }

    /** The tape's bytes; the tape is empty then. */
    private int[] takeBytes() {
        int[] bytes = new int[size];
        for (int i = 0; i < size; i++) {
            bytes[i] = tape[i];
        }
        size = 0;
        return bytes;
    }

    /** The tape's men, none at all if they are not as told; the tape is empty then. */
    private int[] takeMen(int least, int most) {
        if (!menTold(least, most)) {
            size = 0;
        }
        return takeBytes();
    }

    // Texts.

    public int yard() {
        openText(MOST_YARD_BYTES);
        int lines = draft.yard.read(text);
        fault = text.fault;
        if (fault != 0) {
            return -1 - text.place;
        }
        Yard old = now.yard;
        now.yard = draft.yard;
        draft.yard = old;
        now.plan.clear();
        now.sentence.clear();
        nightKnown = false;
        return lines;
    }

    public int plan() {
        openText(MOST_PLAN_BYTES);
        draft.plan.read(text, now.yard);
        fault = text.fault;
        if (fault != 0) {
            return -1 - text.place;
        }
        Plan old = now.plan;
        now.plan = draft.plan;
        draft.plan = old;
        nightKnown = false;
        return now.plan.things;
    }

    public int sentence() {
        openText(MOST_SENTENCE_BYTES);
        draft.sentence.read(text);
        fault = text.fault;
        if (fault != 0) {
            return -1 - text.place;
        }
        Sentence old = now.sentence;
        now.sentence = draft.sentence;
        draft.sentence = old;
        return now.sentence.ones;
    }

    private void openText(int limit) {
        text.open(tape, size, limit);
        size = 0;
    }

    public int fault() {
        return fault;
    }

    // What the yard tells.

    public int man(int m, int what) throws NoSuchElementException {
        Yard yard = now.yard;
        if (m < 0 || m >= yard.men || what < 0 || what > 2) {
            throw new NoSuchElementException();
        }
        if (what == 0) {
            return yard.hand[m];
        }
        return what == 1 ? yard.pace[m] : yard.power[m];
    }

    public int cell(int x, int y, int what) throws NoSuchElementException {
        Yard yard = now.yard;
        if (x < 0 || x >= yard.columns || y < 0 || y >= yard.rows || what < 0 || what > 1) {
            throw new NoSuchElementException();
        }
        int at = y * yard.columns + x;
        if (what == 0) {
            return yard.fuel[at];
        }
        return yard.burns[at] ? 1 : 0;
    }

    public int count(int what) {
        switch (what) {
            case 0: return now.yard.men;
            case 1: return now.yard.columns;
            case 2: return now.yard.rows;
            case 3: return now.yard.pails;
            case 4: return now.plan.things;
            case 5: return size;
            case 6: return now.yard.way;
            default: return NONE;
        }
    }

    // Rows and running.

    public int row(int ticks) {
        int[] men = takeMen(2, MOST_MEN);
        if (men.length == 0 || !ticksTold(ticks)) {
            return NONE;
        }
        row.begin(now.yard, men, 0, men.length, now.yard.water);
        row.work(ticks);
        return row.thrown;
    }

    private static boolean ticksTold(int ticks) {
        return ticks >= 0 && ticks <= MOST_TICKS;
    }

    public int rowBy(int what) {
        if (row.men == 0) {
            return NONE;
        }
        switch (what) {
            case 0: return row.heap();
            case 1: return row.heapPlace();
            case 2: return row.drawn;
            case 3: return row.spilt;
            case 4: return row.pailsThrown;
            case 5: return row.drawn - row.spilt - row.thrown;
            default: return NONE;
        }
    }

    public int done(int place) {
        if (place < 0 || place >= row.men) {
            return NONE;
        }
        return row.done[place];
    }

    public int period() {
        int[] men = takeMen(2, MOST_MEN);
        if (men.length == 0) {
            return NONE;
        }
        return periodOf(men);
    }

    private int periodOf(int[] men) {
        int period = 0;
        for (int p = 0; p < men.length; p++) {
            period = Math.max(period, now.yard.timeAt(men[p], p, men.length));
        }
        return period;
    }

    public int best() {
        int[] men = takeMen(2, MOST_ORDERED);
        if (men.length == 0) {
            return NONE;
        }
        sort(men);
        int least = Integer.MAX_VALUE;
        int[] tried = new int[men.length];
        int[] first = new int[men.length];
        // Only who draws and who throws matters to the period; of the orders with the same two
        // the rising one is first, and with the same drawer the greater thrower comes first.
        for (int d = 0; d < men.length; d++) {
            for (int t = men.length - 1; t >= 0; t--) {
                if (t == d) {
                    continue;
                }
                arrange(men, d, t, tried);
                int period = periodOf(tried);
                if (period < least) {
                    least = period;
                    System.arraycopy(tried, 0, first, 0, tried.length);
                }
            }
        }
        order = first;
        return least;
    }

    private static void sort(int[] men) {
        for (int i = 1; i < men.length; i++) {
            for (int j = i; j > 0 && men[j - 1] > men[j]; j--) {
                int lesser = men[j];
                men[j] = men[j - 1];
                men[j - 1] = lesser;
            }
        }
    }

    /** The d-th man draws, the t-th throws, the others hand as they stand in men. */
    private static void arrange(int[] men, int d, int t, int[] into) {
        int place = 1;
        for (int i = 0; i < men.length; i++) {
            int at = i == d ? 0 : i == t ? men.length - 1 : place;
            if (i != d && i != t) {
                place++;
            }
            if (at >= 0 && at < into.length) {
                into[at] = men[i];
            }
        }
    }

    public int bestAt(int place) {
        return entry(order, place);
    }

    private static int entry(int[] list, int i) {
        return i >= 0 && i < list.length ? list[i] : NONE;
    }

    public int running(int ticks) {
        int[] men = takeMen(1, MOST_MEN);
        if (men.length == 0 || !ticksTold(ticks)) {
            return NONE;
        }
        return thrownRunning(men, men.length, ticks);
    }

    private int thrownRunning(int[] men, int count, int ticks) {
        runners.begin(now.yard, men, 0, count, now.yard.water);
        runners.work(ticks);
        return runners.thrown;
    }

    private int thrownInRow(int[] men, int count, int water, int ticks) {
        spareRow.begin(now.yard, men, 0, count, water);
        spareRow.work(ticks);
        return spareRow.thrown;
    }

    public int line(int ticks) {
        if (!ticksTold(ticks)) {
            return NONE;
        }
        int[] men = new int[MOST_MEN];
        for (int m = 0; m < MOST_MEN; m++) {
            men[m] = m;
        }
        for (int n = 2; n <= now.yard.men; n++) {
            int inRow = thrownInRow(men, n, now.yard.water, ticks);
            if (inRow > thrownRunning(men, n, ticks)) {
                return n;
            }
        }
        return NONE;
    }

    public int cost(int m, int ticks) throws NoSuchElementException {
        if (m < 0 || m > HOUR || ticks < HOUR * m || ticks > MOST_TICKS || !menTold(2, MOST_MEN)) {
            throw new NoSuchElementException();
        }
        int[] men = takeBytes();
        int atOnce = thrownInRow(men, men.length, now.yard.water, ticks);
        int first = thrownRunning(men, men.length, HOUR * m);
        int left = now.yard.water - runners.drawn;
        int then = thrownInRow(men, men.length, left, ticks - HOUR * m);
        return atOnce - first - then;
    }

    public int more(int n) {
        int[] men = takeMen(2, MOST_MEN);
        if (men.length == 0 || n < 0 || n > MOST_OTHERS) {
            return NONE;
        }
        int[] others = new int[men.length];
        for (int i = 0; i < n; i++) {
            int slowest = slowestPlace(men, others);
            others[slowest]++;
        }
        beside = others;
        return sharedTime(men, others, slowestPlace(men, others));
    }

    private int slowestPlace(int[] men, int[] others) {
        int slowest = 0;
        for (int p = 1; p < men.length; p++) {
            if (sharedTime(men, others, p) > sharedTime(men, others, slowest)) {
                slowest = p;
            }
        }
        return slowest;
    }

    private int sharedTime(int[] men, int[] others, int place) {
        int time = now.yard.timeAt(men[place], place, men.length);
        return cutUp(time, others[place] + 1);
    }

    private static int cutUp(int number, int by) {
        return by > 0 ? (number + by - 1) / by : 0;
    }

    public int moreAt(int place) {
        return entry(beside, place);
    }

    public int relief() {
        int[] men = takeMen(1, MOST_MEN);
        if (men.length == 0) {
            return NOT_TOLD;
        }
        int[] left = new int[men.length];
        for (int n = 1; n <= men.length; n++) {
            if (lastsAnHour(men, n, left)) {
                return n;
            }
        }
        return NONE;
    }

    private boolean lastsAnHour(int[] men, int n, int[] left) {
        int[] power = now.yard.power;
        for (int i = 0; i < n; i++) {
            left[i] = power[men[i]];
        }
        for (int minute = 0; minute < HOUR; minute++) {
            int turn = n > 0 ? minute % n : 0;
            if (left[turn] < THROWING_COSTS) {
                return false;
            }
            for (int i = 0; i < n; i++) {
                if (i == turn) {
                    left[i] -= THROWING_COSTS;
                } else if (left[i] < power[men[i]]) {
                    left[i]++;
                }
            }
        }
        return true;
    }

    // Hooks.

    public int hooks(int k) {
        boolean told = k >= 1 && k <= MOST_HOOKS && size <= MOST_MEN && k <= size && housesTold();
        int[] houses = takeBytes();
        if (!told) {
            return NONE;
        }
        int[] at = new int[k];
        for (int i = 0; i < k; i++) {
            at[i] = i;
        }
        int[] first = new int[k];
        int least = Integer.MAX_VALUE;
        boolean another = true;
        // 924 choices are the most: 6 of 12 houses.
        for (int choice = 0; another && choice < 1000; choice++) {
            int way = greatestWay(houses, at);
            if (way < least) {
                least = way;
                for (int i = 0; i < k; i++) {
                    first[i] = houses[at[i]];
                }
            }
            another = nextChoice(at, houses.length);
        }
        hooked = first;
        return least;
    }

    private boolean housesTold() {
        for (int i = 0; i < size; i++) {
            if (tape[i] > MOST_HOUSE || i > 0 && tape[i] <= tape[i - 1]) {
                return false;
            }
        }
        return true;
    }

    private static int greatestWay(int[] houses, int[] at) {
        int greatest = 0;
        for (int h = 0; h < houses.length; h++) {
            int nearest = Integer.MAX_VALUE;
            for (int i = 0; i < at.length; i++) {
                nearest = Math.min(nearest, Math.abs(houses[h] - houses[at[i]]));
            }
            greatest = Math.max(greatest, nearest);
        }
        return greatest;
    }

    /** The next rising choice of numbers below n; false if at was the last one. */
    private static boolean nextChoice(int[] at, int n) {
        int last = at.length - 1;
        while (last >= 0 && at[last] >= n - at.length + last) {
            last--;
        }
        if (last < 0) {
            return false;
        }
        at[last]++;
        for (int i = last + 1; i < at.length; i++) {
            at[i] = at[i - 1] + 1;
        }
        return true;
    }

    public int hookAt(int i) {
        return entry(hooked, i);
    }

    // Fires.

    public int fire(int minutes, int litres, int aim, int late) {
        if (minutes < 0 || minutes > HOUR || !litresTold(litres) || !now.yard.aimTold(aim)
                || late < 0 || late > MOST_LATE) {
            return NONE;
        }
        fire.begin(now.yard);
        fire.burnFor(minutes, litres, aim, late);
        return fire.lost;
    }

    private static boolean litresTold(int litres) {
        return litres >= 0 && litres <= MOST_LITRES;
    }

    public int fireAt(int x, int y, int what) {
        if (x < 0 || x >= fire.columns || y < 0 || y >= fire.rows) {
            return NONE;
        }
        int at = y * fire.columns + x;
        switch (what) {
            case 0: return fire.fuel[at];
            case 1: return fire.burns[at] ? 1 : 0;
            case 2: return fire.wet[at];
            default: return NONE;
        }
    }

    public int out() {
        return fire.outIn;
    }

    public int aims(int minutes, int litres) {
        if (minutes < 1 || minutes > MOST_AIMED || !litresTold(litres) || now.yard.columns == 0) {
            return NONE;
        }
        return search.leastLost(now.yard, minutes, litres);
    }

    public int aimAt(int i) {
        if (i < 0 || i >= search.minutes) {
            return NONE;
        }
        return search.bestAims[i];
    }

    public int give(int litres) {
        if (!litresTold(litres)) {
            return NONE;
        }
        int least = lostGivingUp(NONE, litres);
        int column = NONE;
        for (int x = 0; x < now.yard.columns; x++) {
            int lost = lostGivingUp(x, litres);
            if (lost < least) {
                least = lost;
                column = x;
            }
        }
        return column;
    }

    private int lostGivingUp(int column, int litres) {
        spareFire.begin(now.yard);
        int given = spareFire.giveUp(column);
        spareFire.burnFor(GIVE_MINUTES, litres, 1, 0);
        return given + spareFire.lost;
    }

    public int enough(int aim, int minutes) {
        if (!now.yard.aimTold(aim) || minutes < 1 || minutes > HOUR) {
            return NOT_TOLD;
        }
        // More water is not always better: it may lead the aim elsewhere.
        for (int litres = 0; litres <= MOST_ENOUGH; litres++) {
            spareFire.begin(now.yard);
            spareFire.burnFor(minutes, litres, aim, 0);
            if (spareFire.burning == 0) {
                return litres;
            }
        }
        return NONE;
    }

    // Nights.

    public int night(int m, int what) {
        if (m < 0 || m >= HOUR) {
            return NONE;
        }
        knowNight();
        switch (what) {
            case 0: return night.thrown[m];
            case 1: return night.lost[m];
            case 2: return night.burning[m];
            case 3: return night.water[m];
            default: return NONE;
        }
    }

    private void knowNight() {
        if (!nightKnown) {
            night.pass(now.yard, now.plan, spareRow, runners, spareFire);
            nightKnown = true;
        }
    }

    public int said(int k) {
        if (now.sentence.ones == 0 || k < NONE) {
            return NONE;
        }
        knowNight();
        int minutes = 0;
        for (int m = 0; m < HOUR; m++) {
            if (now.sentence.holds(night, m)) {
                if (minutes == k) {
                    return m;
                }
                minutes++;
            }
        }
        return k == NONE ? minutes : NONE;
    }

    // Images.

    public boolean image(int k) {
        if (k < 0 || k >= IMAGES) {
            return false;
        }
        kept[k].copy(now);
        keptThere[k] = true;
        return true;
    }

    public boolean restore(int k) {
        if (k < 0 || k >= IMAGES || !keptThere[k]) {
            return false;
        }
        now.copy(kept[k]);
        nightKnown = false;
        return true;
    }

    /** The words that no man may be named by. */
    private enum Word {
        MAN("man"), WAY("way"), PAILS("pails"), WELL("well"), SPILL("spill"), BACK("back"),
        THROW("throw"), CELLS("cells"), BURN("burn"), WIND("wind"),
        NORTH("north"), EAST("east"), SOUTH("south"), WEST("west"),
        AT("at"), ROW("row"), RUN("run"), STOP("stop"), AIM("aim"), GIVE("give"),
        OR("or"), AND("and"), NOT("not"), OUT("out"), MINUTE("minute"), THROWN("thrown"),
        LOST("lost"), BURNS("burns"), WATER("water");

        private static final Word[] ALL = values();

        private final int letters;

        Word(String word) {
            int sum = 0;
            for (int i = 0; i < word.length(); i++) {
                sum = withLetter(sum, word.charAt(i));
            }
            letters = sum;
        }

        /** A word of up to six letters as one number, unlike for unlike words. */
        static int withLetter(int letters, int letter) {
            return letters * 27 + (letter - 'a' + 1);
        }

        static Word of(int letters) {
            for (int i = 0; i < ALL.length; i++) {
                if (ALL[i].letters == letters) {
                    return ALL[i];
                }
            }
            return null;
        }
    }

    /** The tokens of a text, one at a time, and its first fault. */
    private static final class Text {
        static final int END = 0;
        static final int BAD = 1;
        static final int WORD = 2;
        static final int NUMBER = 3;
        static final int SIGN = 4;

        private static final int MOST_LETTERS = 6;
        private static final int MOST_DIGITS = 8;

        private int[] bytes;
        private int size;
        private int stop;
        private boolean tooLong;

        int kind;
        int begin;
        int end;
        /** A number's value, a word's letters as one number, or a sign. */
        int value;
        /** Null if the token is none of the words that are told. */
        Word word;
        int fault;
        int place;
        /** What takeNumber took last. */
        int taken;

        Text() {
            bytes = new int[0];
        }

        void open(int[] tape, int length, int limit) {
            bytes = tape;
            size = Math.min(length, tape.length);
            stop = Math.min(size, limit);
            tooLong = size > limit;
            end = 0;
            fault = 0;
            place = 0;
            next();
        }

        void next() {
            int at = end;
            while (at < stop && (bytes[at] == ' ' || bytes[at] == '\n')) {
                at++;
            }
            word = null;
            if (at >= stop) {
                kind = END;
                begin = stop;
                end = stop;
                return;
            }
            begin = at;
            if (!isLetter(bytes[at]) && !isDigit(bytes[at])) {
                kind = isSign(bytes[at]) ? SIGN : BAD;
                value = bytes[at];
                end = at + 1;
                return;
            }
            int letters = 0;
            int digits = 0;
            int spelt = 0;
            int number = 0;
            for (; at < size && (isLetter(bytes[at]) || isDigit(bytes[at])); at++) {
                if (isLetter(bytes[at])) {
                    letters++;
                    spelt = Word.withLetter(spelt, bytes[at]);
                } else {
                    digits++;
                    number = number * 10 + (bytes[at] - '0');
                }
            }
            end = at;
            if (digits == 0 && letters <= MOST_LETTERS) {
                kind = WORD;
                value = spelt;
                word = Word.of(spelt);
            } else {
                kind = letters == 0 && digits <= MOST_DIGITS ? NUMBER : BAD;
                value = number;
            }
        }

        private static boolean isLetter(int b) {
            return b >= 'a' && b <= 'z';
        }

        private static boolean isDigit(int b) {
            return b >= '0' && b <= '9';
        }

        private static boolean isSign(int b) {
            return b == ';' || b == '<' || b == '=' || b == '>' || b == '(' || b == ')';
        }

        /** Tells a fault at the token; always false, so that readers can answer it at once. */
        boolean refuse(int faultKind) {
            if (fault == 0) {
                fault = faultKind;
                place = begin;
            }
            return false;
        }

        boolean isAt(int sign) {
            return kind == SIGN && value == sign;
        }

        boolean takeSign(int sign) {
            if (!isAt(sign)) {
                return refuse(1);
            }
            next();
            return true;
        }

        boolean takeNumber(int least, int most) {
            if (kind != NUMBER) {
                return refuse(1);
            }
            if (value < least || value > most) {
                return refuse(2);
            }
            taken = value;
            next();
            return true;
        }

        /** Whether the token can be a man's name. */
        boolean isName() {
            return kind == WORD && word == null;
        }

        /** Whether the text ends here, and is not too long. */
        boolean takeEnd() {
            return kind == END && !tooLong || refuse(1);
        }

        int length() {
            return end - begin;
        }

        int digit(int i) {
            int at = begin + i;
            return at >= begin && at < end && at < size ? bytes[at] - '0' : 0;
        }
    }

    /** What a yard's text tells. */
    private static final class Yard {
        static final int STILL = -1;
        static final int NORTH = 0;
        static final int EAST = 1;
        static final int SOUTH = 2;
        static final int WEST = 3;

        int men;
        final int[] name;
        final int[] hand;
        final int[] pace;
        final int[] power;
        int way;
        int pails;
        int hold;
        int draw;
        int water;
        int spill;
        int back;
        int throwing;
        int wind;
        int columns;
        int rows;
        final int[] fuel;
        final boolean[] burns;
        /** A bit for each kind of line that may be told once. */
        private int told;

        Yard() {
            name = new int[MOST_MEN];
            hand = new int[MOST_MEN];
            pace = new int[MOST_MEN];
            power = new int[MOST_MEN];
            fuel = new int[MOST_CELLS];
            burns = new boolean[MOST_CELLS];
            clear();
        }

        private void clear() {
            men = 0;
            way = 30;
            pails = 6;
            hold = 8;
            draw = 5;
            water = 9999;
            spill = 0;
            back = 20;
            throwing = 2;
            wind = STILL;
            columns = 0;
            rows = 0;
            told = 0;
            for (int i = 0; i < MOST_CELLS; i++) {
                fuel[i] = 0;
                burns[i] = false;
            }
        }

        void copy(Yard other) {
            men = other.men;
            System.arraycopy(other.name, 0, name, 0, MOST_MEN);
            System.arraycopy(other.hand, 0, hand, 0, MOST_MEN);
            System.arraycopy(other.pace, 0, pace, 0, MOST_MEN);
            System.arraycopy(other.power, 0, power, 0, MOST_MEN);
            way = other.way;
            pails = other.pails;
            hold = other.hold;
            draw = other.draw;
            water = other.water;
            spill = other.spill;
            back = other.back;
            throwing = other.throwing;
            wind = other.wind;
            columns = other.columns;
            rows = other.rows;
            for (int i = 0; i < MOST_CELLS; i++) {
                fuel[i] = other.fuel[i];
                burns[i] = other.burns[i];
            }
            told = other.told;
        }

        /** Answers how many lines; the text tells whether there is a fault. */
        int read(Text text) {
            clear();
            for (int lines = 0; lines < MOST_YARD_BYTES; lines++) {
                if (text.kind == Text.END) {
                    text.takeEnd();
                    return lines;
                }
                if (!readLine(text) || !text.takeSign(';')) {
                    return lines;
                }
            }
            text.takeEnd();
            return MOST_YARD_BYTES;
        }

        private boolean readLine(Text text) {
            Word word = text.word;
            if (word == null) {
                return text.refuse(1);
            }
            switch (word) {
                case MAN: return readMan(text);
                case CELLS: return readCells(text);
                case BURN: return readBurn(text);
                case WIND: return once(text, 1) && readWind(text);
                case PAILS: return once(text, 2) && readPails(text);
                case WELL: return once(text, 4) && readWell(text);
                case WAY:
                    if (!once(text, 8) || !text.takeNumber(10, 99)) {
                        return false;
                    }
                    way = text.taken;
                    return true;
                case SPILL:
                    if (!once(text, 16) || !text.takeNumber(0, 99)) {
                        return false;
                    }
                    spill = text.taken;
                    return true;
                case BACK:
                    if (!once(text, 32) || !text.takeNumber(1, 99)) {
                        return false;
                    }
                    back = text.taken;
                    return true;
                case THROW:
                    if (!once(text, 64) || !text.takeNumber(1, 9)) {
                        return false;
                    }
                    throwing = text.taken;
                    return true;
                default:
                    return text.refuse(1);
            }
        }

        /** Goes past the line's word, if it stands for the first time. */
        private boolean once(Text text, int bit) {
            if ((told & bit) != 0) {
                return text.refuse(3);
            }
            told |= bit;
            text.next();
            return true;
        }

        private boolean readMan(Text text) {
            if (men >= MOST_MEN) {
                return text.refuse(4);
            }
            text.next();
            if (!text.isName()) {
                return text.refuse(1);
            }
            if (manNamed(text.value) != NONE) {
                return text.refuse(3);
            }
            name[men] = text.value;
            text.next();
            if (!text.takeNumber(1, 9)) {
                return false;
            }
            hand[men] = text.taken;
            if (!text.takeNumber(1, 9)) {
                return false;
            }
            pace[men] = text.taken;
            if (!text.takeNumber(1, 99)) {
                return false;
            }
            power[men] = text.taken;
            men++;
            return true;
        }

        int manNamed(int letters) {
            for (int m = 0; m < men; m++) {
                if (name[m] == letters) {
                    return m;
                }
            }
            return NONE;
        }

        private boolean readPails(Text text) {
            if (!text.takeNumber(1, MOST_PAILS)) {
                return false;
            }
            pails = text.taken;
            if (!text.takeNumber(1, 20)) {
                return false;
            }
            hold = text.taken;
            return true;
        }

        private boolean readWell(Text text) {
            if (!text.takeNumber(1, 30)) {
                return false;
            }
            draw = text.taken;
            if (!text.takeNumber(0, 9999)) {
                return false;
            }
            water = text.taken;
            return true;
        }

        private boolean readWind(Text text) {
            if (text.word == Word.NORTH) {
                wind = NORTH;
            } else if (text.word == Word.EAST) {
                wind = EAST;
            } else if (text.word == Word.SOUTH) {
                wind = SOUTH;
            } else if (text.word == Word.WEST) {
                wind = WEST;
            } else {
                return text.refuse(1);
            }
            text.next();
            return true;
        }

        private boolean readCells(Text text) {
            if (rows >= MOST_SIDE) {
                return text.refuse(4);
            }
            text.next();
            if (text.kind != Text.NUMBER) {
                return text.refuse(1);
            }
            int digits = text.length();
            if (digits > MOST_SIDE || rows > 0 && digits != columns) {
                return text.refuse(2);
            }
            columns = digits;
            for (int x = 0; x < columns; x++) {
                fuel[rows * columns + x] = text.digit(x);
            }
            rows++;
            text.next();
            return true;
        }

        private boolean readBurn(Text text) {
            text.next();
            if (!text.takeNumber(0, columns - 1)) {
                return false;
            }
            int x = text.taken;
            if (text.kind != Text.NUMBER) {
                return text.refuse(1);
            }
            int y = text.value;
            if (y < 0 || y >= rows || fuel[y * columns + x] == 0) {
                return text.refuse(2);
            }
            if (burns[y * columns + x]) {
                return text.refuse(3);
            }
            burns[y * columns + x] = true;
            text.next();
            return true;
        }

        /** How long a man who is not tired takes at a place of a row. */
        int timeAt(int man, int place, int rowMen) {
            if (man < 0 || man >= men) {
                return 0;
            }
            if (place == rowMen - 1) {
                return throwing + hand[man];
            }
            int handing = hand[man] + cutUp(way, rowMen - 1) / 4;
            return place == 0 ? draw + handing : handing;
        }

        /** The cell of an aim from 100 on; NONE if there is no such cell. */
        int aimedCell(int aim) {
            if (aim < 100) {
                return NONE;
            }
            int x = (aim - 100) % 10;
            int y = (aim - 100) / 10;
            return x < columns && y < rows ? y * columns + x : NONE;
        }

        boolean aimTold(int aim) {
            return aim >= 0 && aim <= 3 || aimedCell(aim) != NONE;
        }
    }

    /** What a plan's text tells. */
    private static final class Plan {
        static final int STAND = 0;
        static final int START_RUN = 1;
        static final int HALT = 2;
        static final int TURN = 3;
        static final int GIVE_UP = 4;

        int things;
        final int[] minute;
        final int[] kind;
        /** How many men, an aim, or a column. */
        final int[] number;
        /** Twelve places for each thing. */
        final int[] men;

        Plan() {
            minute = new int[MOST_THINGS];
            kind = new int[MOST_THINGS];
            number = new int[MOST_THINGS];
            men = new int[MOST_THINGS * MOST_MEN];
        }

        void clear() {
            things = 0;
        }

        void copy(Plan other) {
            things = other.things;
            System.arraycopy(other.minute, 0, minute, 0, MOST_THINGS);
            System.arraycopy(other.kind, 0, kind, 0, MOST_THINGS);
            System.arraycopy(other.number, 0, number, 0, MOST_THINGS);
            System.arraycopy(other.men, 0, men, 0, MOST_THINGS * MOST_MEN);
        }

        boolean read(Text text, Yard yard) {
            clear();
            int earliest = 0;
            for (int i = 0; i <= MOST_THINGS; i++) {
                if (text.kind == Text.END) {
                    return text.takeEnd();
                }
                if (text.word != Word.AT) {
                    return text.refuse(1);
                }
                if (things >= MOST_THINGS) {
                    return text.refuse(4);
                }
                text.next();
                if (!text.takeNumber(earliest, HOUR - 1)) {
                    return false;
                }
                earliest = text.taken;
                minute[things] = earliest;
                if (!readThing(text, yard) || !text.takeSign(';')) {
                    return false;
                }
                things++;
            }
            return text.refuse(4);
        }

        private boolean readThing(Text text, Yard yard) {
            Word word = text.word;
            if (word == Word.ROW) {
                kind[things] = STAND;
                return readMen(text, yard, 2);
            }
            if (word == Word.RUN) {
                kind[things] = START_RUN;
                return readMen(text, yard, 1);
            }
            if (word == Word.AIM) {
                kind[things] = TURN;
                return readAim(text, yard);
            }
            if (word == Word.GIVE) {
                kind[things] = GIVE_UP;
                text.next();
                boolean told = text.takeNumber(0, yard.columns - 1);
                number[things] = text.taken;
                return told;
            }
            if (word == Word.STOP) {
                kind[things] = HALT;
                text.next();
                return true;
            }
            return text.refuse(1);
        }

        private boolean readAim(Text text, Yard yard) {
            text.next();
            if (text.kind == Text.NUMBER && !yard.aimTold(text.value)) {
                return text.refuse(2);
            }
            boolean told = text.takeNumber(0, Integer.MAX_VALUE);
            number[things] = text.taken;
            return told;
        }

        private boolean readMen(Text text, Yard yard, int least) {
            text.next();
            int first = things * MOST_MEN;
            // Behind twelve unlike men the thirteenth is refused as unknown or told twice.
            for (int n = 0; n <= MOST_MEN; n++) {
                if (n >= least && text.isAt(';')) {
                    number[things] = n;
                    return true;
                }
                if (!text.isName()) {
                    return text.refuse(1);
                }
                int man = yard.manNamed(text.value);
                if (man == NONE || n >= MOST_MEN || stands(first, n, man)) {
                    return text.refuse(3);
                }
                men[first + n] = man;
                text.next();
            }
            return text.refuse(3);
        }

        private boolean stands(int first, int count, int man) {
            for (int i = 0; i < count; i++) {
                if (men[first + i] == man) {
                    return true;
                }
            }
            return false;
        }
    }

    /** A sentence as steps on a pile of truths: each step puts one, or takes some and puts one. */
    private static final class Sentence {
        private static final int MOST_ONES = 20;
        private static final int MOST_WITHIN = 8;
        /** Twenty ones at most, and fewer joints than ones. */
        private static final int MOST_STEPS = 40;

        private static final int IS_OUT = 0;
        private static final int COMPARE_MINUTE = 1;
        private static final int COMPARE_THROWN = 2;
        private static final int COMPARE_LOST = 3;
        private static final int COMPARE_BURNS = 4;
        private static final int COMPARE_WATER = 5;
        private static final int TURN_ROUND = 6;
        private static final int JOIN_ALL = 7;
        private static final int JOIN_ANY = 8;

        /** None: there is no sentence. */
        int ones;
        private int steps;
        private final int[] step;
        private final int[] sign;
        private final int[] number;
        private final boolean[] pile;

        Sentence() {
            step = new int[MOST_STEPS];
            sign = new int[MOST_STEPS];
            number = new int[MOST_STEPS];
            pile = new boolean[MOST_ONES];
        }

        void clear() {
            ones = 0;
            steps = 0;
        }

        void copy(Sentence other) {
            ones = other.ones;
            steps = other.steps;
            System.arraycopy(other.step, 0, step, 0, MOST_STEPS);
            System.arraycopy(other.sign, 0, sign, 0, MOST_STEPS);
            System.arraycopy(other.number, 0, number, 0, MOST_STEPS);
        }

        boolean read(Text text) {
            clear();
            return readAny(text, 1) && text.takeEnd();
        }

        private boolean readAny(Text text, int depth) {
            if (!readAll(text, depth)) {
                return false;
            }
            for (int i = 0; i < MOST_ONES; i++) {
                if (text.word != Word.OR) {
                    return true;
                }
                text.next();
                if (!readAll(text, depth) || !add(JOIN_ANY, 0, 0)) {
                    return false;
                }
            }
            return text.refuse(4);
        }

        private boolean readAll(Text text, int depth) {
            if (!readOne(text, depth)) {
                return false;
            }
            for (int i = 0; i < MOST_ONES; i++) {
                if (text.word != Word.AND) {
                    return true;
                }
                text.next();
                if (!readOne(text, depth) || !add(JOIN_ALL, 0, 0)) {
                    return false;
                }
            }
            return text.refuse(4);
        }

        private boolean readOne(Text text, int depth) {
            Word word = text.word;
            boolean bracket = text.isAt('(');
            if (!bracket && word != Word.NOT && word != Word.OUT && measured(word) == NONE) {
                return text.refuse(1);
            }
            if (ones >= MOST_ONES || depth > MOST_WITHIN) {
                return text.refuse(4);
            }
            ones++;
            text.next();
            if (bracket) {
                return readAny(text, depth + 1) && text.takeSign(')');
            }
            if (word == Word.NOT) {
                return readOne(text, depth + 1) && add(TURN_ROUND, 0, 0);
            }
            if (word == Word.OUT) {
                return add(IS_OUT, 0, 0);
            }
            return readComparison(text, measured(word));
        }

        private boolean readComparison(Text text, int what) {
            if (!text.isAt('<') && !text.isAt('=') && !text.isAt('>')) {
                return text.refuse(1);
            }
            int compared = text.value;
            text.next();
            return text.takeNumber(0, Integer.MAX_VALUE) && add(what, compared, text.taken);
        }

        private static int measured(Word word) {
            if (word == Word.MINUTE) {
                return COMPARE_MINUTE;
            }
            if (word == Word.THROWN) {
                return COMPARE_THROWN;
            }
            if (word == Word.LOST) {
                return COMPARE_LOST;
            }
            if (word == Word.BURNS) {
                return COMPARE_BURNS;
            }
            return word == Word.WATER ? COMPARE_WATER : NONE;
        }

        private boolean add(int what, int compared, int to) {
            if (steps >= MOST_STEPS) {
                return false;
            }
            step[steps] = what;
            sign[steps] = compared;
            number[steps] = to;
            steps++;
            return true;
        }

        boolean holds(Night night, int minute) {
            int high = 0;
            for (int i = 0; i < steps; i++) {
                if (step[i] == TURN_ROUND) {
                    if (high > 0) {
                        pile[high - 1] = !pile[high - 1];
                    }
                } else if (step[i] == JOIN_ALL || step[i] == JOIN_ANY) {
                    if (high > 1) {
                        high--;
                        boolean all = step[i] == JOIN_ALL;
                        pile[high - 1] = all ? pile[high - 1] && pile[high] : pile[high - 1] || pile[high];
                    }
                } else if (high < MOST_ONES) {
                    pile[high] = isSo(night, minute, i);
                    high++;
                }
            }
            return high > 0 && pile[0];
        }

        private boolean isSo(Night night, int minute, int i) {
            if (step[i] == IS_OUT) {
                return night.burning[minute] == 0;
            }
            int measure = measure(night, minute, step[i]);
            if (sign[i] == '<') {
                return measure < number[i];
            }
            return sign[i] == '>' ? measure > number[i] : measure == number[i];
        }

        private static int measure(Night night, int minute, int what) {
            switch (what) {
                case COMPARE_THROWN: return night.thrown[minute];
                case COMPARE_LOST: return night.lost[minute];
                case COMPARE_BURNS: return night.burning[minute];
                case COMPARE_WATER: return night.water[minute];
                default: return minute;
            }
        }
    }

    /** What an image keeps. */
    private static final class State {
        Yard yard;
        Plan plan;
        Sentence sentence;

        State() {
            yard = new Yard();
            plan = new Plan();
            sentence = new Sentence();
        }

        void copy(State other) {
            yard.copy(other.yard);
            plan.copy(other.plan);
            sentence.copy(other.sentence);
        }
    }

    /** Men in a row, tick by tick. */
    private static final class Row {
        /** More than a pail takes to come back, so that no two ticks share a place in coming. */
        private static final int ROUND = 100;

        private Yard yard;
        int men;
        private final int[] man;
        private final int[] time;
        private final int[] left;
        private final int[] inHand;
        final int[] done;
        /** Litres of the pails that stand at a place, thirty slots each, round and round. */
        private final int[] queue;
        private final int[] head;
        private final int[] standing;
        private final int[] mostStanding;
        private final int[] coming;
        private int tick;
        private int empty;
        int water;
        int thrown;
        int drawn;
        int spilt;
        int pailsThrown;

        Row() {
            man = new int[MOST_MEN];
            time = new int[MOST_MEN];
            left = new int[MOST_MEN];
            inHand = new int[MOST_MEN];
            done = new int[MOST_MEN];
            queue = new int[MOST_MEN * MOST_PAILS];
            head = new int[MOST_MEN];
            standing = new int[MOST_MEN];
            mostStanding = new int[MOST_MEN];
            coming = new int[ROUND];
        }

        void begin(Yard in, int[] from, int first, int count, int inWell) {
            yard = in;
            men = Math.min(count, MOST_MEN);
            for (int p = 0; p < men; p++) {
                man[p] = from[first + p];
                time[p] = in.timeAt(man[p], p, men);
                left[p] = 0;
                inHand[p] = 0;
                done[p] = 0;
                head[p] = 0;
                standing[p] = 0;
                mostStanding[p] = 0;
            }
            for (int i = 0; i < ROUND; i++) {
                coming[i] = 0;
            }
            tick = 0;
            empty = in.pails;
            water = inWell;
            thrown = 0;
            drawn = 0;
            spilt = 0;
            pailsThrown = 0;
        }

        void work(int ticks) {
            for (int t = 0; t < ticks; t++) {
                workTick();
            }
        }

        private void workTick() {
            tick++;
            empty += coming[tick % ROUND];
            coming[tick % ROUND] = 0;
            for (int p = men - 1; p >= 0; p--) {
                if (left[p] > 0) {
                    left[p]--;
                    if (left[p] == 0) {
                        finish(p);
                    }
                }
                if (left[p] == 0) {
                    start(p);
                }
            }
            for (int p = 1; p < men; p++) {
                mostStanding[p] = Math.max(mostStanding[p], standing[p]);
            }
        }

        private void finish(int p) {
            done[p]++;
            if (p == men - 1) {
                thrown += inHand[p];
                pailsThrown++;
                coming[(tick + yard.back) % ROUND]++;
                return;
            }
            int spills = inHand[p] * yard.spill / 100;
            spilt += spills;
            if (standing[p + 1] < MOST_PAILS) {
                int slot = (head[p + 1] + standing[p + 1]) % MOST_PAILS;
                queue[(p + 1) * MOST_PAILS + slot] = inHand[p] - spills;
                standing[p + 1]++;
            }
        }

        private void start(int p) {
            if (p == 0) {
                if (empty == 0 || water == 0) {
                    return;
                }
                empty--;
                inHand[0] = Math.min(yard.hold, water);
                water -= inHand[0];
                drawn += inHand[0];
            } else {
                if (standing[p] == 0) {
                    return;
                }
                inHand[p] = queue[p * MOST_PAILS + head[p]];
                head[p] = (head[p] + 1) % MOST_PAILS;
                standing[p]--;
            }
            boolean tired = done[p] >= 10 * yard.power[man[p]];
            left[p] = tired ? 2 * time[p] : time[p];
        }

        int heapPlace() {
            int place = 0;
            int most = 0;
            for (int p = 1; p < men; p++) {
                if (mostStanding[p] > most) {
                    most = mostStanding[p];
                    place = p;
                }
            }
            return place;
        }

        int heap() {
            int place = heapPlace();
            return place == 0 ? 0 : mostStanding[place];
        }
    }

    /** Men who run each by himself, tick by tick. */
    private static final class Runners {
        private static final int TO_DRAW = 0;
        private static final int DRAWING = 1;
        private static final int GOING = 2;
        private static final int RETURNING = 3;

        private Yard yard;
        private int men;
        private final int[] wayTime;
        private final int[] doing;
        private final int[] left;
        private final int[] litres;
        private boolean wellTaken;
        int water;
        int thrown;
        int drawn;

        Runners() {
            wayTime = new int[MOST_MEN];
            doing = new int[MOST_MEN];
            left = new int[MOST_MEN];
            litres = new int[MOST_MEN];
        }

        void begin(Yard in, int[] from, int first, int count, int inWell) {
            yard = in;
            men = Math.min(Math.min(count, in.pails), MOST_MEN);
            for (int i = 0; i < men; i++) {
                wayTime[i] = cutUp(in.way, in.pace[from[first + i]]);
                doing[i] = TO_DRAW;
                left[i] = 0;
                litres[i] = 0;
            }
            wellTaken = false;
            water = inWell;
            thrown = 0;
            drawn = 0;
        }

        void work(int ticks) {
            for (int t = 0; t < ticks; t++) {
                for (int i = 0; i < men; i++) {
                    workTick(i);
                }
            }
        }

        private void workTick(int i) {
            if (left[i] > 0) {
                left[i]--;
                if (left[i] == 0) {
                    finish(i);
                }
            }
            if (doing[i] == TO_DRAW && !wellTaken && water > 0) {
                wellTaken = true;
                litres[i] = Math.min(yard.hold, water);
                water -= litres[i];
                drawn += litres[i];
                doing[i] = DRAWING;
                left[i] = yard.draw;
            }
        }

        private void finish(int i) {
            if (doing[i] == DRAWING) {
                wellTaken = false;
                doing[i] = GOING;
                left[i] = wayTime[i];
            } else if (doing[i] == GOING) {
                thrown += cutUp(litres[i], 2);
                litres[i] = 0;
                doing[i] = RETURNING;
                left[i] = wayTime[i];
            } else {
                doing[i] = TO_DRAW;
            }
        }
    }

    /** A barn's cells, minute by minute. */
    private static final class Fire {
        private static final int CATCHES = 5;

        int columns;
        int rows;
        int cells;
        private int wind;
        final int[] fuel;
        final int[] wet;
        final boolean[] burns;
        private final int[] heat;
        /** Where who throws would have thrown by what was seen in each minute. */
        private final int[] seen;
        int burning;
        int lost;
        int outIn;

        Fire() {
            fuel = new int[MOST_CELLS];
            wet = new int[MOST_CELLS];
            burns = new boolean[MOST_CELLS];
            heat = new int[MOST_CELLS];
            seen = new int[HOUR];
            outIn = NONE;
        }

        void begin(Yard yard) {
            columns = yard.columns;
            rows = yard.rows;
            cells = columns * rows;
            wind = yard.wind;
            burning = 0;
            for (int i = 0; i < cells; i++) {
                fuel[i] = yard.fuel[i];
                burns[i] = yard.burns[i];
                wet[i] = 0;
                if (burns[i]) {
                    burning++;
                }
            }
            lost = 0;
            outIn = burning == 0 ? 0 : NONE;
        }

        void copy(Fire other) {
            columns = other.columns;
            rows = other.rows;
            cells = other.cells;
            wind = other.wind;
            for (int i = 0; i < cells; i++) {
                fuel[i] = other.fuel[i];
                wet[i] = other.wet[i];
                burns[i] = other.burns[i];
            }
            burning = other.burning;
            lost = other.lost;
            outIn = other.outIn;
        }

        void burnFor(int minutes, int litres, int aim, int late) {
            for (int m = 0; m < minutes && m < HOUR; m++) {
                seen[m] = aimed(aim);
                passMinute(seen[Math.max(0, m - late)], litres);
                if (burning == 0 && outIn == NONE) {
                    outIn = m + 1;
                }
            }
        }

        void passMinute(int target, int litres) {
            if (target >= 0 && target < cells) {
                wet[target] += litres;
                if (burns[target] && wet[target] >= 10 * fuel[target]) {
                    burns[target] = false;
                }
            }
            feelHeat();
            burning = 0;
            for (int i = 0; i < cells; i++) {
                if (burns[i]) {
                    fuel[i]--;
                    lost++;
                    burns[i] = fuel[i] > 0;
                } else {
                    burns[i] = fuel[i] > 0 && heat[i] >= CATCHES + wet[i] / 2;
                }
                if (burns[i]) {
                    burning++;
                }
            }
        }

        private void feelHeat() {
            for (int i = 0; i < cells; i++) {
                heat[i] = 0;
            }
            for (int y = 0; y < rows; y++) {
                for (int x = 0; x < columns; x++) {
                    int at = y * columns + x;
                    if (!burns[at]) {
                        continue;
                    }
                    if (y > 0) {
                        heat[at - columns] += fuel[at] * windTo(Yard.NORTH);
                    }
                    if (x < columns - 1) {
                        heat[at + 1] += fuel[at] * windTo(Yard.EAST);
                    }
                    if (y < rows - 1) {
                        heat[at + columns] += fuel[at] * windTo(Yard.SOUTH);
                    }
                    if (x > 0) {
                        heat[at - 1] += fuel[at] * windTo(Yard.WEST);
                    }
                }
            }
        }

        /** How many times the heat goes into a direction. */
        private int windTo(int direction) {
            if (wind == direction) {
                return 2;
            }
            return wind == (direction + 2) % 4 ? 0 : 1;
        }

        /** The cell of an aim as things stand; NONE: nowhere. */
        int aimed(int aim) {
            if (aim >= 100) {
                return (aim - 100) / 10 * columns + (aim - 100) % 10;
            }
            if (aim == 3) {
                int hot = hottest();
                return hot == NONE ? fullest() : hot;
            }
            if (aim == 1) {
                return fullest();
            }
            return aim == 2 ? leanest() : NONE;
        }

        private int fullest() {
            int found = NONE;
            for (int i = 0; i < cells; i++) {
                if (burns[i] && (found == NONE || fuel[i] > fuel[found])) {
                    found = i;
                }
            }
            return found;
        }

        private int leanest() {
            int found = NONE;
            for (int i = 0; i < cells; i++) {
                if (burns[i] && (found == NONE || fuel[i] < fuel[found])) {
                    found = i;
                }
            }
            return found;
        }

        private int hottest() {
            feelHeat();
            int found = NONE;
            for (int i = 0; i < cells; i++) {
                boolean feels = !burns[i] && fuel[i] > 0 && heat[i] > 0;
                if (feels && (found == NONE || heat[i] > heat[found])) {
                    found = i;
                }
            }
            return found;
        }

        /** Answers the fuel that is taken away; nothing for no such column. */
        int giveUp(int column) {
            int taken = 0;
            if (column < 0 || column >= columns) {
                return taken;
            }
            for (int y = 0; y < rows; y++) {
                int at = y * columns + column;
                taken += fuel[at];
                fuel[at] = 0;
                if (burns[at]) {
                    burns[at] = false;
                    burning--;
                }
            }
            return taken;
        }
    }

    /** The best cells to throw at in the first minutes. */
    private static final class AimSearch {
        private static final int WATCHED = 20;
        private static final int CHOICES = 8;

        int minutes;
        private int litres;
        private int least;
        /** The fire at the beginning of each minute with a choice, and behind the last one. */
        private final Fire[] stage;
        private final int[] aims;
        final int[] bestAims;

        AimSearch() {
            stage = new Fire[MOST_AIMED + 1];
            for (int i = 0; i <= MOST_AIMED; i++) {
                stage[i] = new Fire();
            }
            aims = new int[MOST_AIMED];
            bestAims = new int[MOST_AIMED];
        }

        int leastLost(Yard yard, int forMinutes, int ofLitres) {
            minutes = forMinutes;
            litres = ofLitres;
            least = Integer.MAX_VALUE;
            stage[0].begin(yard);
            choose(0);
            return least;
        }

        private void choose(int minute) {
            // What is lost only grows, and of like ones the first stays.
            if (minute < 0 || minute > MOST_AIMED || stage[minute].lost >= least) {
                return;
            }
            Fire fire = stage[minute];
            if (minute >= minutes) {
                weigh(fire);
                return;
            }
            int tried = 0;
            for (int i = 0; i < fire.cells && tried < CHOICES; i++) {
                if (fire.burns[i]) {
                    tried++;
                    follow(minute, i);
                }
            }
            follow(minute, NONE);
        }

        private void follow(int minute, int target) {
            Fire fire = stage[minute + 1];
            fire.copy(stage[minute]);
            fire.passMinute(target, litres);
            aims[minute] = aimOf(target, fire.columns);
            choose(minute + 1);
        }

        private static int aimOf(int target, int columns) {
            if (target == NONE || columns <= 0) {
                return 0;
            }
            return 100 + target / columns * 10 + target % columns;
        }

        private void weigh(Fire fire) {
            for (int m = minutes; m < WATCHED && fire.burning > 0 && fire.lost < least; m++) {
                fire.passMinute(NONE, 0);
            }
            if (fire.lost < least) {
                least = fire.lost;
                System.arraycopy(aims, 0, bestAims, 0, MOST_AIMED);
            }
        }
    }

    /** A night by a plan: what stands behind each minute. */
    private static final class Night {
        private static final int NOBODY = 0;
        private static final int IN_ROW = 1;
        private static final int RUNNING = 2;

        final int[] thrown;
        final int[] lost;
        final int[] burning;
        final int[] water;
        private int working;
        private int aim;
        private int inWell;

        Night() {
            thrown = new int[HOUR];
            lost = new int[HOUR];
            burning = new int[HOUR];
            water = new int[HOUR];
        }

        void pass(Yard yard, Plan plan, Row row, Runners runners, Fire fire) {
            working = NOBODY;
            aim = 1;
            inWell = yard.water;
            fire.begin(yard);
            int next = 0;
            for (int m = 0; m < HOUR; m++) {
                for (; next < plan.things && plan.minute[next] <= m; next++) {
                    int first = next * MOST_MEN;
                    int number = plan.number[next];
                    switch (plan.kind[next]) {
                        case Plan.STAND:
                            row.begin(yard, plan.men, first, number, inWell);
                            working = IN_ROW;
                            break;
                        case Plan.START_RUN:
                            runners.begin(yard, plan.men, first, number, inWell);
                            working = RUNNING;
                            break;
                        case Plan.TURN:
                            aim = number;
                            break;
                        case Plan.GIVE_UP:
                            fire.giveUp(number);
                            break;
                        default:
                            working = NOBODY;
                    }
                }
                thrown[m] = workMinute(row, runners);
                fire.passMinute(fire.aimed(aim), thrown[m]);
                lost[m] = fire.lost;
                burning[m] = fire.burning;
                water[m] = inWell;
            }
        }

        private int workMinute(Row row, Runners runners) {
            if (working == IN_ROW) {
                int before = row.thrown;
                row.work(HOUR);
                inWell = row.water;
                return row.thrown - before;
            }
            if (working == RUNNING) {
                int before = runners.thrown;
                runners.work(HOUR);
                inWell = runners.water;
                return runners.thrown - before;
            }
            return 0;
        }
    }
}
