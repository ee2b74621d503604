import java.util.ArrayDeque;
import java.util.ArrayList;
import java.util.Arrays;
import java.util.Deque;
import java.util.List;
import java.util.Random;

/** Many yards made from fixed seeds, each call against a slow model that is written apart from the class. */
public final class ModelTest {
    private static final int YARDS = 400;

    private final Random random;
    private final PailRow x = new PailRow();
    private final StringBuilder text = new StringBuilder();
    private int men;
    private int[][] man;
    private int way = 30;
    private int pails = 6;
    private int hold = 8;
    private int draw = 5;
    private int water = 9999;
    private int spill = 0;
    private int back = 20;
    private int throwing = 2;
    private int windX = 0;
    private int windY = 0;
    private int columns;
    private int rows;
    private int[][] fuel;
    private boolean[][] burns;

    private ModelTest(long seed) {
        random = new Random(seed);
    }

    public static void main(String[] args) {
        for (int seed = 0; seed < YARDS; seed++) {
            ModelTest test = new ModelTest(seed);
            test.makeYard();
            test.compareRows();
            test.compareOrders();
            test.compareHooksAndRelief();
            test.compareFires();
            test.compareSearches(seed);
            test.compareNight();
        }
        Check.end();
    }

    private int from(int least, int most) {
        return least + random.nextInt(most - least + 1);
    }

    private void makeYard() {
        men = from(2, 12);
        man = new int[men][];
        for (int m = 0; m < men; m++) {
            man[m] = new int[] {from(1, 9), from(1, 9), from(1, random.nextBoolean() ? 9 : 99)};
            text.append("man m").append((char) ('a' + m));
            text.append(' ').append(man[m][0]).append(' ').append(man[m][1]).append(' ').append(man[m][2]).append(';');
        }
        if (random.nextInt(4) > 0) {
            way = from(10, 99);
            pails = from(1, 30);
            hold = from(1, 20);
            draw = from(1, 30);
            water = random.nextBoolean() ? from(0, 300) : from(0, 9999);
            text.append("way ").append(way).append(";pails ").append(pails).append(' ').append(hold).append(";well ")
                    .append(draw).append(' ').append(water).append(';');
        }
        if (random.nextBoolean()) {
            spill = from(0, 99);
            back = from(1, 99);
            throwing = from(1, 9);
            text.append("spill ").append(spill).append(";back ").append(back).append(";throw ").append(throwing)
                    .append(';');
        }
        makeBarn();
        int lines = Check.tape(x, text.toString()).yard();
        if (lines < men) {
            Check.due("yard() of " + text, lines, men);
        }
    }

    private void makeBarn() {
        columns = from(1, 8);
        rows = from(1, 8);
        fuel = new int[rows][columns];
        burns = new boolean[rows][columns];
        int thick = from(1, 9);
        // A winding way through the barn burns longest.
        boolean winding = random.nextInt(3) == 0;
        if (winding) {
            columns = 8;
            rows = 8;
            fuel = new int[rows][columns];
            burns = new boolean[rows][columns];
        }
        for (int y = 0; y < rows; y++) {
            text.append("cells ");
            for (int c = 0; c < columns; c++) {
                boolean onWay = y % 2 == 0 || c == (y % 4 == 1 ? columns - 1 : 0);
                fuel[y][c] = !winding ? from(0, thick) : onWay ? from(5, 9) : 0;
                text.append(fuel[y][c]);
            }
            text.append(';');
        }
        int fires = winding ? 1 : from(0, 10);
        for (int i = 0; i < fires; i++) {
            int c = from(0, columns - 1);
            int y = from(0, rows - 1);
            if (fuel[y][c] > 0 && !burns[y][c]) {
                burns[y][c] = true;
                text.append("burn ").append(c).append(' ').append(y).append(';');
            }
        }
        int wind = from(0, 4);
        if (wind < 4) {
            text.append("wind ").append(new String[] {"north", "east", "south", "west"}[wind]).append(';');
            windX = new int[] {0, 1, 0, -1}[wind];
            windY = new int[] {-1, 0, 1, 0}[wind];
        }
    }

    private int[] someMen(int least, int most) {
        List<Integer> all = new ArrayList<>();
        for (int m = 0; m < men; m++) {
            all.add(m);
        }
        int count = Math.min(from(least, most), men);
        int[] some = new int[count];
        for (int i = 0; i < count; i++) {
            some[i] = all.remove(random.nextInt(all.size()));
        }
        return some;
    }

    // The row: pails are objects that go from queue to queue.

    private static final class Pail {
        int litres;
        int emptyFrom;
    }

    private int timeOf(int[] who, int p) {
        int n = who.length;
        if (p == n - 1) {
            return throwing + man[who[p]][0];
        }
        int yards = (int) Math.ceil((double) way / (n - 1));
        return (p == 0 ? draw : 0) + man[who[p]][0] + yards / 4;
    }

    private final class RowModel {
        private final int[] who;
        private final List<Deque<Pail>> standing = new ArrayList<>();
        private final List<Pail> thrownAway = new ArrayList<>();
        private final Pail[] holds;
        private final int[] until;
        private final int[] done;
        private final int[] most;
        private int tick = 0;
        private int well;
        private int thrown = 0;
        private int drawn = 0;
        private int spilt = 0;
        private int thrownPails = 0;

        RowModel(int[] who, int well) {
            this.who = who;
            this.well = well;
            int n = who.length;
            holds = new Pail[n];
            until = new int[n];
            done = new int[n];
            most = new int[n];
            for (int p = 0; p < n; p++) {
                standing.add(new ArrayDeque<>());
            }
            for (int i = 0; i < pails; i++) {
                standing.get(0).add(new Pail());
            }
        }

        void go(int ticks) {
            for (int last = tick + ticks; tick < last;) {
                tick++;
                thrownAway.removeIf(pail -> pail.emptyFrom == tick && standing.get(0).add(pail));
                for (int p = who.length - 1; p >= 0; p--) {
                    if (holds[p] != null && until[p] == tick) {
                        pass(p);
                    }
                    if (holds[p] == null && !standing.get(p).isEmpty() && (p > 0 || well > 0)) {
                        take(p);
                    }
                }
                for (int p = 1; p < who.length; p++) {
                    most[p] = Math.max(most[p], standing.get(p).size());
                }
            }
        }

        private void pass(int p) {
            Pail pail = holds[p];
            holds[p] = null;
            done[p]++;
            if (p == who.length - 1) {
                thrown += pail.litres;
                thrownPails++;
                pail.emptyFrom = tick + back;
                thrownAway.add(pail);
            } else {
                int spills = (int) Math.floor(pail.litres * spill / 100.0 + 1e-9);
                pail.litres -= spills;
                spilt += spills;
                standing.get(p + 1).addLast(pail);
            }
        }

        private void take(int p) {
            holds[p] = standing.get(p).pollFirst();
            if (p == 0) {
                holds[p].litres = Math.min(hold, well);
                well -= holds[p].litres;
                drawn += holds[p].litres;
            }
            until[p] = tick + timeOf(who, p) * (done[p] >= 10 * man[who[p]][2] ? 2 : 1);
        }
    }

    private final class RunModel {
        private final int[] who;
        private final int[] litres;
        /** 0 at the well, 1 draws, 2 goes, 3 returns. */
        private final int[] doing;
        private final int[] until;
        private int tick = 0;
        private int well;
        private int thrown = 0;
        private int drawn = 0;

        RunModel(int[] told, int well) {
            who = Arrays.copyOf(told, Math.min(told.length, pails));
            this.well = well;
            litres = new int[who.length];
            doing = new int[who.length];
            until = new int[who.length];
        }

        void go(int ticks) {
            for (int last = tick + ticks; tick < last;) {
                tick++;
                for (int i = 0; i < who.length; i++) {
                    step(i);
                }
            }
        }

        private void step(int i) {
            int run = (int) Math.ceil((double) way / man[who[i]][1]);
            if (doing[i] > 0 && until[i] == tick) {
                if (doing[i] == 2) {
                    thrown += (litres[i] + 1) / 2;
                }
                doing[i] = (doing[i] + 1) % 4;
                until[i] = tick + run;
            }
            boolean free = true;
            for (int other : doing) {
                free &= other != 1;
            }
            if (doing[i] == 0 && free && well > 0) {
                doing[i] = 1;
                litres[i] = Math.min(hold, well);
                well -= litres[i];
                drawn += litres[i];
                until[i] = tick + draw;
            }
        }
    }

    private int modelRow(int[] who, int well, int ticks) {
        RowModel row = new RowModel(who, well);
        row.go(ticks);
        return row.thrown;
    }

    private int modelRun(int[] who, int ticks) {
        RunModel run = new RunModel(who, water);
        run.go(ticks);
        return run.thrown;
    }

    private void compareRows() {
        int[] who = someMen(2, 12);
        int ticks = from(0, 3600);
        RowModel row = new RowModel(who, water);
        row.go(ticks);
        String named = "row(" + ticks + ") of " + Arrays.toString(who) + " in " + text;
        Check.due(named, Check.men(x, who).row(ticks), row.thrown);
        int place = 0;
        for (int p = 1; p < who.length; p++) {
            place = row.most[p] > row.most[place] ? p : place;
        }
        int[] by = {row.most[place], place, row.drawn, row.spilt, row.thrownPails, row.drawn - row.spilt - row.thrown};
        for (int what = 0; what < by.length; what++) {
            Check.due("rowBy(" + what + ") of " + named, x.rowBy(what), by[what]);
        }
        for (int p = 0; p < who.length; p++) {
            Check.due("done(" + p + ") of " + named, x.done(p), row.done[p]);
        }
        int[] runners = someMen(1, 12);
        Check.due("running: " + text, Check.men(x, runners).running(ticks), modelRun(runners, ticks));
        int m = from(0, ticks / 60);
        RunModel first = new RunModel(who, water);
        first.go(60 * m);
        int cost = row.thrown - first.thrown - modelRow(who, water - first.drawn, ticks - 60 * m);
        Check.due("cost: " + text, Check.men(x, who).cost(m, ticks), cost);
        int line = PailRow.NONE;
        for (int n = men; n >= 2; n--) {
            int[] firsts = new int[n];
            for (int i = 0; i < n; i++) {
                firsts[i] = i;
            }
            line = modelRow(firsts, water, ticks) > modelRun(firsts, ticks) ? n : line;
        }
        Check.due("line(" + ticks + "): " + text, x.line(ticks), line);
    }

    // Orders: every one of them.

    private int[] bestOrder;
    private int bestPeriod;

    private int modelPeriod(int[] who) {
        int longest = 0;
        for (int p = 0; p < who.length; p++) {
            longest = Math.max(longest, timeOf(who, p));
        }
        return longest;
    }

    private void tryOrders(int[] rising, int[] who, int placed) {
        if (placed == rising.length) {
            if (modelPeriod(who) < bestPeriod) {
                bestPeriod = modelPeriod(who);
                bestOrder = who.clone();
            }
            return;
        }
        for (int next : rising) {
            boolean there = false;
            for (int p = 0; p < placed; p++) {
                there |= who[p] == next;
            }
            if (!there) {
                who[placed] = next;
                tryOrders(rising, who, placed + 1);
            }
        }
    }

    private void compareOrders() {
        int[] who = someMen(2, 7);
        Check.due("period: " + text, Check.men(x, who).period(), modelPeriod(who));
        int[] rising = who.clone();
        Arrays.sort(rising);
        bestPeriod = Integer.MAX_VALUE;
        tryOrders(rising, new int[who.length], 0);
        Check.due("best: " + text, Check.men(x, who).best(), bestPeriod);
        for (int p = 0; p < who.length; p++) {
            Check.due("bestAt(" + p + "): " + text, x.bestAt(p), bestOrder[p]);
        }
        int others = from(0, 9);
        int[] each = new int[who.length];
        Arrays.fill(each, 1);
        for (int i = 0; i <= others; i++) {
            int slowest = 0;
            for (int p = 0; p < who.length; p++) {
                if (Math.ceil((double) timeOf(who, p) / each[p])
                        > Math.ceil((double) timeOf(who, slowest) / each[slowest])) {
                    slowest = p;
                }
            }
            if (i == others) {
                Check.due("more(" + others + "): " + text, Check.men(x, who).more(others),
                        (int) Math.ceil((double) timeOf(who, slowest) / each[slowest]));
            } else {
                each[slowest]++;
            }
        }
        for (int p = 0; p < who.length; p++) {
            Check.due("moreAt(" + p + "): " + text, x.moreAt(p), each[p] - 1);
        }
    }

    private void compareHooksAndRelief() {
        int[] who = someMen(1, 12);
        int relief = PailRow.NONE;
        for (int n = who.length; n >= 1; n--) {
            relief = reliefLasts(Arrays.copyOf(who, n)) ? n : relief;
        }
        Check.due("relief of " + Arrays.toString(who) + ": " + text, Check.men(x, who).relief(), relief);
        int count = from(1, 12);
        int[] houses = random.ints(0, 100).distinct().limit(count).sorted().toArray();
        int k = from(1, Math.min(6, count));
        int least = Integer.MAX_VALUE;
        String first = "";
        for (int set = 0; set < 1 << count; set++) {
            if (Integer.bitCount(set) != k) {
                continue;
            }
            StringBuilder hooked = new StringBuilder();
            for (int i = 0; i < count; i++) {
                if ((set >> i & 1) != 0) {
                    hooked.append((char) houses[i]);
                }
            }
            int greatest = 0;
            for (int house : houses) {
                greatest = Math.max(greatest, hooked.chars().map(hook -> Math.abs(hook - house)).min().getAsInt());
            }
            if (greatest < least || greatest == least && hooked.toString().compareTo(first) < 0) {
                least = greatest;
                first = hooked.toString();
            }
        }
        Check.due("hooks(" + k + ") of " + Arrays.toString(houses), Check.men(x, houses).hooks(k), least);
        for (int i = 0; i < k; i++) {
            Check.due("hookAt(" + i + ") of " + Arrays.toString(houses), x.hookAt(i), first.charAt(i));
        }
    }

    private boolean reliefLasts(int[] who) {
        for (int i = 0; i < who.length; i++) {
            int full = man[who[i]][2];
            int left = full;
            for (int minute = 0; minute < 60; minute++) {
                if (minute % who.length != i) {
                    left = Math.min(full, left + 1);
                } else if (left < 3) {
                    return false;
                } else {
                    left -= 3;
                }
            }
        }
        return true;
    }

    // Fires: heat is pulled from the neighbours.

    private final class FireModel {
        private final int[][] fuelNow = new int[rows][];
        private final boolean[][] burnsNow = new boolean[rows][];
        private final int[][] wet = new int[rows][columns];
        private int lost = 0;
        private int out;

        FireModel() {
            for (int y = 0; y < rows; y++) {
                fuelNow[y] = fuel[y].clone();
                burnsNow[y] = burns[y].clone();
            }
            out = count() == 0 ? 0 : PailRow.NONE;
        }

        int count() {
            int burning = 0;
            for (boolean[] row : burnsNow) {
                for (boolean burnsHere : row) {
                    burning += burnsHere ? 1 : 0;
                }
            }
            return burning;
        }

        int heat(int c, int y) {
            if (burnsNow[y][c] || fuelNow[y][c] == 0) {
                return 0;
            }
            int sum = 0;
            for (int[] way : new int[][] {{0, 1}, {0, -1}, {1, 0}, {-1, 0}}) {
                int fromX = c + way[0];
                int fromY = y + way[1];
                if (fromX < 0 || fromX >= columns || fromY < 0 || fromY >= rows || !burnsNow[fromY][fromX]) {
                    continue;
                }
                int along = -way[0] * windX - way[1] * windY;
                sum += along > 0 ? 2 * fuelNow[fromY][fromX] : along < 0 ? 0 : fuelNow[fromY][fromX];
            }
            return sum;
        }

        /** 100, 10 Y and X; 0: nowhere. */
        int aim(int aim) {
            if (aim == 0 || aim >= 100) {
                return aim;
            }
            int best = aim == 2 ? 10 : 0;
            int found = 0;
            for (int y = 0; y < rows; y++) {
                for (int c = 0; c < columns; c++) {
                    int worth = aim == 3 ? heat(c, y) : burnsNow[y][c] ? fuelNow[y][c] : best;
                    if (aim == 2 ? worth < best : worth > best) {
                        best = worth;
                        found = 100 + 10 * y + c;
                    }
                }
            }
            return aim == 3 && found == 0 ? aim(1) : found;
        }

        void minute(int at, int litres) {
            if (at >= 100) {
                int y = (at - 100) / 10;
                int c = at % 10;
                wet[y][c] += litres;
                if (wet[y][c] >= 10 * fuelNow[y][c]) {
                    burnsNow[y][c] = false;
                }
            }
            boolean[][] catches = new boolean[rows][columns];
            for (int y = 0; y < rows; y++) {
                for (int c = 0; c < columns; c++) {
                    catches[y][c] = heat(c, y) >= 5 + wet[y][c] / 2;
                }
            }
            for (int y = 0; y < rows; y++) {
                for (int c = 0; c < columns; c++) {
                    if (burnsNow[y][c]) {
                        fuelNow[y][c]--;
                        lost++;
                        burnsNow[y][c] = fuelNow[y][c] > 0;
                    }
                    burnsNow[y][c] |= catches[y][c];
                }
            }
        }

        void go(int minutes, int litres, int aim, int late) {
            List<Integer> seen = new ArrayList<>();
            for (int m = 0; m < minutes; m++) {
                seen.add(aim(aim));
                minute(seen.get(m < late ? 0 : m - late), litres);
                if (out == PailRow.NONE && count() == 0) {
                    out = m + 1;
                }
            }
        }

        int give(int column) {
            int taken = 0;
            for (int y = 0; y < rows; y++) {
                taken += fuelNow[y][column];
                fuelNow[y][column] = 0;
                burnsNow[y][column] = false;
            }
            return taken;
        }
    }

    private int someAim() {
        return random.nextBoolean() ? from(0, 3) : 100 + 10 * from(0, rows - 1) + from(0, columns - 1);
    }

    private void compareFires() {
        for (int i = 0; i < 8; i++) {
            int minutes = from(0, random.nextBoolean() ? 12 : 60);
            int litres = from(0, random.nextBoolean() ? 100 : 999);
            int aim = someAim();
            int late = random.nextBoolean() ? 0 : from(0, 20);
            FireModel fire = new FireModel();
            fire.go(minutes, litres, aim, late);
            String named = "fire(" + minutes + ", " + litres + ", " + aim + ", " + late + ") in " + text;
            Check.due(named, x.fire(minutes, litres, aim, late), fire.lost);
            Check.due("out() of " + named, x.out(), fire.out);
            for (int y = 0; y < rows; y++) {
                for (int c = 0; c < columns; c++) {
                    Check.due("fuel of " + named, x.fireAt(c, y, 0), fire.fuelNow[y][c]);
                    Check.due("burns of " + named, x.fireAt(c, y, 1), fire.burnsNow[y][c] ? 1 : 0);
                    Check.due("wet of " + named, x.fireAt(c, y, 2), fire.wet[y][c]);
                }
            }
        }
    }

    private int lostBy(int[] targets, int litres) {
        FireModel fire = new FireModel();
        for (int m = 0; m < 20; m++) {
            fire.minute(m < targets.length ? targets[m] : 0, litres);
        }
        return fire.lost;
    }

    private int bestLost;
    private int[] bestTargets;

    private void tryAims(int[] targets, int chosen, int litres) {
        if (chosen == targets.length) {
            int lost = lostBy(targets, litres);
            if (lost < bestLost) {
                bestLost = lost;
                bestTargets = targets.clone();
            }
            return;
        }
        FireModel fire = new FireModel();
        for (int m = 0; m < chosen; m++) {
            fire.minute(targets[m], litres);
        }
        List<Integer> choices = new ArrayList<>();
        for (int y = 0; y < rows; y++) {
            for (int c = 0; c < columns; c++) {
                if (fire.burnsNow[y][c] && choices.size() < 8) {
                    choices.add(100 + 10 * y + c);
                }
            }
        }
        choices.add(0);
        for (int choice : choices) {
            targets[chosen] = choice;
            tryAims(targets, chosen + 1, litres);
        }
    }

    private void compareSearches(int seed) {
        int minutes = seed % 8 == 0 ? 3 : from(1, 2);
        int litres = from(0, random.nextInt(4) > 0 ? 120 : 999);
        bestLost = Integer.MAX_VALUE;
        tryAims(new int[minutes], 0, litres);
        Check.due("aims(" + minutes + ", " + litres + ") in " + text, x.aims(minutes, litres), bestLost);
        for (int i = 0; i < minutes; i++) {
            Check.due("aimAt(" + i + ") in " + text, x.aimAt(i), bestTargets[i]);
        }
        FireModel none = new FireModel();
        none.go(30, litres, 1, 0);
        int least = none.lost;
        int column = PailRow.NONE;
        for (int c = 0; c < columns; c++) {
            FireModel fire = new FireModel();
            int given = fire.give(c);
            fire.go(30, litres, 1, 0);
            if (given + fire.lost < least) {
                least = given + fire.lost;
                column = c;
            }
        }
        Check.due("give(" + litres + ") in " + text, x.give(litres), column);
        int aim = someAim();
        int within = from(1, 20);
        int enough = PailRow.NONE;
        for (int l = 200; l >= 0; l--) {
            FireModel fire = new FireModel();
            fire.go(within, l, aim, 0);
            enough = fire.count() == 0 ? l : enough;
        }
        Check.due("enough(" + aim + ", " + within + ") in " + text, x.enough(aim, within), enough);
    }

    // The night: a plan is made as text and as a list of things side by side.

    private void compareNight() {
        StringBuilder plan = new StringBuilder();
        List<int[]> things = new ArrayList<>();
        int minute = 0;
        for (int i = from(0, 12); i > 0; i--) {
            minute = Math.min(59, minute + from(0, 9));
            int[] thing = someThing(minute);
            String words = words(thing);
            if (plan.length() + words.length() <= 400) {
                plan.append(words);
                things.add(thing);
            }
        }
        Check.due("plan() of " + plan, Check.tape(x, plan.toString()).plan(), things.size());
        FireModel fire = new FireModel();
        RowModel row = null;
        RunModel run = null;
        int well = water;
        int aim = 1;
        for (int m = 0; m < 60; m++) {
            while (!things.isEmpty() && things.get(0)[0] == m) {
                int[] thing = things.remove(0);
                int[] rest = Arrays.copyOfRange(thing, 2, thing.length);
                if (thing[1] == 3) {
                    aim = rest[0];
                } else if (thing[1] == 4) {
                    fire.give(rest[0]);
                } else {
                    row = thing[1] == 0 ? new RowModel(rest, well) : null;
                    run = thing[1] == 1 ? new RunModel(rest, well) : null;
                }
            }
            int thrown = 0;
            if (row != null) {
                thrown = -row.thrown;
                row.go(60);
                thrown += row.thrown;
                well = row.well;
            }
            if (run != null) {
                thrown = -run.thrown;
                run.go(60);
                thrown += run.thrown;
                well = run.well;
            }
            fire.minute(fire.aim(aim), thrown);
            int[] due = {thrown, fire.lost, fire.count(), well};
            for (int what = 0; what < 4; what++) {
                Check.due("night(" + m + ", " + what + ") of " + plan + " in " + text, x.night(m, what), due[what]);
            }
        }
    }

    private int[] someThing(int minute) {
        int what = from(0, 4);
        int[] rest;
        if (what <= 1) {
            rest = someMen(what == 0 ? 2 : 1, 5);
        } else if (what == 2) {
            rest = new int[0];
        } else {
            rest = new int[] {what == 3 ? someAim() : from(0, columns - 1)};
        }
        int[] thing = new int[rest.length + 2];
        thing[0] = minute;
        thing[1] = what;
        System.arraycopy(rest, 0, thing, 2, rest.length);
        return thing;
    }

    private static String words(int[] thing) {
        StringBuilder words = new StringBuilder("at ").append(thing[0]).append(' ');
        words.append(new String[] {"row", "run", "stop", "aim", "give"}[thing[1]]);
        for (int i = 2; i < thing.length; i++) {
            words.append(' ');
            if (thing[1] <= 1) {
                words.append('m').append((char) ('a' + thing[i]));
            } else {
                words.append(thing[i]);
            }
        }
        return words.append(';').toString();
    }
}
