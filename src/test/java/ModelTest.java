import java.util.ArrayList;
import java.util.List;

/**
 * All promises together: runs of 512 calls, likely ones and wrong ones, each answer against a second
 * reading of the document that keeps only what was told and works everything out anew at each question.
 */
public final class ModelTest {
    private static final int RUNS = 420;
    private static final int CALLS = 512;
    private static final int KINDS = 21;
    private static final int[] MOST = new int[4];
    private static final int[] WRONG = {-1, -2, 8, 20, 21, 30, 40, 104, 105, 300, 301, 501, 1040, 3001, 10001, 100000,
        Integer.MIN_VALUE, Integer.MAX_VALUE, Integer.MIN_VALUE + 1, 1 << 30};
    private static final Due DUE = new Due();
    private static long seed;
    private static int slowness;
    private static int leaning;
    private static boolean late;

    public static void main(String[] args) {
        for (int run = 0; run < RUNS; run++) {
            seed = 77 + run;
            slowness = 1 + next(60);
            leaning = run % (2 * KINDS);
            late = run % 5 == 0;
            oneRun(run);
        }
        limitsWereMet();
        DUE.end();
    }

    private static void oneRun(int run) {
        DikeHands x = new DikeHands();
        Model m = new Model();
        for (int i = 0; i < CALLS; i++) {
            int[] call = i < (late ? 20 : 12) ? opening(i) : anyCall(m);
            String text = "run " + run + ", call " + i + ": " + java.util.Arrays.toString(call);
            DUE.is(text, ask(x, call), m.answer(call));
        }
        for (int what = 0; what < MOST.length; what++) {
            MOST[what] = Math.max(MOST[what], m.count(what));
        }
    }

    // Runs that never come to a limit would say nothing of what is refused there.
    private static void limitsWereMet() {
        int[] limits = {1040, 40, 40, 200};
        for (int what = 0; what < limits.length; what++) {
            DUE.is("the most that the runs had of count(" + what + ")", MOST[what], limits[what]);
        }
    }

    // Houses and a law first, so that something is owed in most runs; late runs then go on to the last year.
    private static int[] opening(int i) {
        if (i == 0) {
            return new int[] {2, next(2), next(10) * 10000 + next(10) * 1000 + next(60), next(101)};
        }
        if (i < 10) {
            return new int[] {3, next(3), next(501), next(8)};
        }
        return new int[] {11, late ? 95 + next(10) : 30 + next(60)};
    }

    // Half of the runs lean to one kind of call, so that they come to its limit.
    private static int[] anyCall(Model m) {
        int kind = leaning < KINDS && next(3) > 0 ? leaning : next(KINDS);
        int[] call;
        switch (kind) {
            case 0: call = new int[] {kind, next(8), next(100)}; break;
            case 1: call = new int[] {kind, next(30), next(3), next(3) == 0 ? next(5) : next(10001)}; break;
            case 2: call = new int[] {kind, next(20), next(10) * 10000 + next(10) * 1000 + next(501), next(101)}; break;
            case 3: call = new int[] {kind, next(8), next(501), next(21)}; break;
            case 4: call = new int[] {kind, house(m), Math.max(0, m.now - next(70)), next(501), next(21)}; break;
            case 5: call = new int[] {kind, house(m), year(m), next(2)}; break;
            case 6: call = new int[] {kind, house(m), year(m)}; break;
            case 7: call = workCall(m); break;
            case 8: call = new int[] {kind, house(m), 1 + next(40)}; break;
            case 9: call = new int[] {kind, next(30), 1 + next(next(4) == 0 ? 1000 : 20)}; break;
            case 10: call = riverCall(m); break;
            case 11: call = new int[] {kind, next(4) == 0 ? next(105) / slowness : next(3)}; break;
            case 12: call = new int[] {kind, house(m), year(m), next(7)}; break;
            case 13: call = new int[] {kind, next(8)}; break;
            case 14: call = new int[] {kind, next(3)}; break;
            case 15: call = new int[] {kind, next(30), next(4), next(3001)}; break;
            case 16: call = new int[] {kind, next(301), next(3001)}; break;
            case 17: call = new int[] {kind, next(301), 900 + next(500)}; break;
            case 18: call = new int[] {kind, next(8), next(8)}; break;
            case 19: call = new int[] {kind, next(8), next(30), next(101)}; break;
            default: call = new int[] {kind, next(9)}; break;
        }
        if (next(12) == 0) {
            call[1 + next(call.length - 1)] = WRONG[next(WRONG.length)];
        }
        return call;
    }

    private static int[] workCall(Model m) {
        int worker = house(m);
        int forWhom = next(2) == 0 ? worker : house(m);
        return new int[] {7, worker, next(30), 1 + next(next(2) == 0 ? 9 : 60), forWhom};
    }

    private static int[] riverCall(Model m) {
        int from = m.now + next(5) - (next(10) == 0 ? 1 : 0);
        int level = next(5) == 0 ? next(3001) : next(1000);
        return new int[] {10, from, from + next(20), level};
    }

    private static int house(Model m) {
        return next(Math.max(1, m.houses.size()));
    }

    private static int year(Model m) {
        int years = m.now / 52 + 1;
        return next(3) == 0 ? next(years) : years - 1;
    }

    private static int next(int bound) {
        seed = seed * 6364136223846793005L + 1442695040888963407L;
        return (int) ((seed >>> 33) % bound);
    }

    private static int bit(boolean b) {
        return b ? 1 : 0;
    }

    private static int ask(DikeHands x, int[] a) {
        switch (a[0]) {
            case 0: return bit(x.village(a[1], a[2]));
            case 1: return bit(x.rod(a[1], a[2], a[3]));
            case 2: return x.law(a[1], a[2], a[3]);
            case 3: return x.house(a[1], a[2], a[3]);
            case 4: return bit(x.change(a[1], a[2], a[3], a[4]));
            case 5: return x.listed(a[1], a[2], a[3]);
            case 6: return x.owed(a[1], a[2]);
            case 7: return x.work(a[1], a[2], a[3], a[4]);
            case 8: return x.buy(a[1], a[2]);
            case 9: return x.hire(a[1], a[2]);
            case 10: return bit(x.river(a[1], a[2], a[3]));
            case 11: return x.go(a[1]);
            case 12: return x.told(a[1], a[2], a[3]);
            case 13: return bit(x.paper(a[1]));
            case 14: return x.paperWeek(a[1]);
            case 15: return x.bank(a[1], a[2], a[3]);
            case 16: return x.saved(a[1], a[2]);
            case 17: return x.chosen(a[1], a[2]);
            case 18: return x.called(a[1], a[2]);
            case 19: return x.arrived(a[1], a[2], a[3]);
            default: return x.count(a[1]);
        }
    }

    /** What was told, as lists of rows; all else is worked out when it is asked. */
    private static final class Model {
        final int[] miles = new int[8];
        final int[][] rods = new int[30][5]; // height, soil, loss, breaks, days
        final int[] levels = new int[1040];
        final List<int[]> laws = new ArrayList<>(); // year, ten acres, hand, exempt, coin
        final List<int[]> houses = new ArrayList<>(); // village, week of coming
        final List<int[]> tellings = new ArrayList<>(); // house, told, from, acres, hands
        final List<int[]> deeds = new ArrayList<>(); // week, worker, for whom, days
        final List<int[]> bought = new ArrayList<>(); // week, house, days
        int now = 0;
        int chest = 0;
        int loss = 0;
        int hired = 0;

        Model() {
            for (int[] rod : rods) {
                rod[0] = 1000;
            }
        }

        int answer(int[] a) {
            switch (a[0]) {
                case 0: return bit(setMile(a[1], a[2]));
                case 1: return bit(setRod(a[1], a[2], a[3]));
                case 2: return addLaw(a[1], a[2], a[3]);
                case 3: return addHouse(a[1], a[2], a[3]);
                case 4: return bit(addChange(a[1], a[2], a[3], a[4]));
                case 5: return isIn(a[3], 0, 1) && asked(a[1], a[2]) && list(a[1], a[2]) != null
                    ? list(a[1], a[2])[3 + a[3]] : -1;
                case 6: return asked(a[1], a[2]) ? owed(a[1], a[2]) : -1;
                case 7: return work(a[1], a[2], a[3], a[4]);
                case 8: return buy(a[1], a[2]);
                case 9: return hire(a[1], a[2]);
                case 10: return bit(setLevels(a[1], a[2], a[3]));
                case 11: return go(a[1]);
                case 12: return asked(a[1], a[2]) ? told(a[1], a[2], a[3]) : -1;
                case 13: return bit(paperWeek(a[1]) >= 0);
                case 14: return paperWeek(a[1]);
                case 15: return bank(a[1], a[2], a[3]);
                case 16: return isIn(a[1], 0, 300) && isIn(a[2], 0, 3000) ? plan(a[1], a[2])[0] : -1;
                case 17: return isIn(a[1], 0, 300) && isIn(a[2], 0, 3000) ? plan(a[1], a[2])[1] : -1;
                case 18: return isIn(a[1], 0, 7) && isIn(a[2], 0, 7) ? hours(miles[a[1]], miles[a[2]], 6) : -1;
                case 19: return arrived(a[1], a[2], a[3]);
                default: return count(a[1]);
            }
        }

        private static boolean isIn(int value, int least, int most) {
            return least <= value && value <= most;
        }

        private boolean isHouse(int h) {
            return isIn(h, 0, houses.size() - 1);
        }

        private boolean asked(int h, int year) {
            return isHouse(h) && isIn(year, 0, now / 52);
        }

        private boolean setMile(int village, int mile) {
            boolean ok = isIn(village, 0, 7) && isIn(mile, 0, 99);
            if (ok) {
                miles[village] = mile;
            }
            return ok;
        }

        private boolean setRod(int rod, int soil, int loss) {
            boolean ok = isIn(rod, 0, 29) && isIn(soil, 0, 2) && isIn(loss, 0, 10000);
            if (ok) {
                rods[rod][1] = soil;
                rods[rod][2] = loss;
            }
            return ok;
        }

        private int addLaw(int year, int what, int coin) {
            for (int ten = 0; ten <= 9; ten++) {
                for (int hand = 0; hand <= 9; hand++) {
                    int exempt = what - ten * 10000 - hand * 1000;
                    if (what >= 0 && isIn(exempt, 0, 500) && isIn(year, 0, 19) && isIn(coin, 0, 100) && laws.size() < 40) {
                        laws.add(new int[] {year, ten, hand, exempt, coin});
                        return laws.size();
                    }
                }
            }
            return -1;
        }

        private int addHouse(int village, int acres, int hands) {
            if (!isIn(village, 0, 7) || !isIn(acres, 0, 500) || !isIn(hands, 0, 20) || houses.size() == 40) {
                return -1;
            }
            houses.add(new int[] {village, now});
            tellings.add(new int[] {houses.size() - 1, now, now, acres, hands});
            return houses.size() - 1;
        }

        private boolean addChange(int h, int week, int acres, int hands) {
            if (!isHouse(h) || !isIn(week, houses.get(h)[1], now) || !isIn(acres, 0, 500) || !isIn(hands, 0, 20)
                || tellings.size() - houses.size() == 200) {
                return false;
            }
            tellings.add(new int[] {h, now, week, acres, hands});
            return true;
        }

        private int[] list(int h, int year) {
            int[] found = null;
            for (int[] t : tellings) {
                if (t[0] == h && t[1] < 52 * year) {
                    found = t;
                }
            }
            return found;
        }

        private int trueHands(int village, int week) {
            int sum = 0;
            for (int h = 0; h < houses.size(); h++) {
                int[] found = null;
                for (int[] t : tellings) {
                    if (t[0] == h && t[2] <= week && (found == null || t[2] >= found[2])) {
                        found = t;
                    }
                }
                sum += found == null || houses.get(h)[0] != village ? 0 : found[4];
            }
            return sum;
        }

        private int[] law(int year) {
            for (int y = year; y >= 0; y--) {
                for (int i = laws.size() - 1; i >= 0; i--) {
                    if (laws.get(i)[0] == y) {
                        return laws.get(i);
                    }
                }
            }
            return new int[5];
        }

        private int owed(int h, int year) {
            int[] list = list(h, year);
            int[] law = law(year);
            return list == null || list[3] < law[3] ? 0 : list[3] / 10 * law[1] + list[4] * law[2];
        }

        private int told(int h, int year, int what) {
            int[] sums = {owed(h, year), 0, 0, 0, 0, -1, 0};
            for (int[] d : deeds) {
                if (d[0] / 52 == year && d[2] == h) {
                    sums[d[1] == h ? 1 : 2] += d[3];
                    sums[5] = d[1] == h ? sums[5] : d[1];
                }
                if (d[0] / 52 == year && d[1] == h && d[2] != h) {
                    sums[6] += d[3];
                }
            }
            for (int[] b : bought) {
                sums[3] += b[0] / 52 == year && b[1] == h ? b[2] : 0;
            }
            sums[4] = Math.max(0, sums[0] - sums[1] - sums[2] - sums[3]);
            return isIn(what, 0, 6) ? sums[what] : -1;
        }

        private int work(int h, int rod, int n, int whom) {
            if (!isHouse(h) || !isHouse(whom) || !isIn(rod, 0, 29) || now == 1040
                || !isIn(n, 1, told(whom, now / 52, 4))) {
                return -1;
            }
            int other = told(whom, now / 52, 5);
            if (h != whom && (houses.get(h)[0] != houses.get(whom)[0] || other != -1 && other != h)) {
                return -1;
            }
            deeds.add(new int[] {now, h, whom, n});
            grow(rod, n);
            return told(whom, now / 52, 4);
        }

        private void grow(int rod, int n) {
            for (int i = 0; i < n; i++) {
                rods[rod][0] = Math.min(3000, rods[rod][0] + 30 - 10 * rods[rod][1]);
                rods[rod][4]++;
            }
        }

        private int buy(int h, int n) {
            if (!isHouse(h) || now == 1040 || !isIn(n, 1, told(h, now / 52, 4))) {
                return -1;
            }
            bought.add(new int[] {now, h, n});
            chest += n * law(now / 52)[4];
            return chest;
        }

        private int hire(int rod, int n) {
            int coin = law(now / 52)[4];
            if (!isIn(rod, 0, 29) || !isIn(n, 1, 1000) || coin == 0 || (long) n * coin > chest) {
                return -1;
            }
            grow(rod, n);
            hired += n;
            chest -= n * coin;
            return chest;
        }

        private boolean setLevels(int from, int to, int level) {
            if (!isIn(level, 0, 3000) || from < now || to < from || to > 1039) {
                return false;
            }
            java.util.Arrays.fill(levels, from, to + 1, level);
            return true;
        }

        private int go(int n) {
            if (!isIn(n, 0, 104)) {
                return -1;
            }
            for (int end = Math.min(1040, now + n); now < end; now++) {
                for (int[] rod : rods) {
                    boolean breaks = levels[now] > rod[0];
                    rod[0] = breaks ? 0 : rod[0] - levels[now] / 100;
                    rod[3] += breaks ? 1 : 0;
                    loss += breaks ? rod[2] : 0;
                }
            }
            return now;
        }

        private int paperWeek(int village) {
            for (int week = 0; week < 1040 && isIn(village, 0, 7); week++) {
                int days = 0;
                for (int[] d : deeds) {
                    days += d[0] == week && houses.get(d[1])[0] == village ? d[3] : 0;
                }
                if (days > 0 && days > 6 * trueHands(village, week)) {
                    return week;
                }
            }
            return -1;
        }

        private int need(int rod, int level) {
            int days = 0;
            while (rods[rod][0] + days * (30 - 10 * rods[rod][1]) < level) {
                days++;
            }
            return days;
        }

        private int bank(int rod, int what, int level) {
            if (!isIn(rod, 0, 29) || !isIn(what, 0, 3) || what == 3 && !isIn(level, 0, 3000)) {
                return -1;
            }
            int[] r = rods[rod];
            return what == 0 ? r[0] : what == 1 ? r[3] : what == 2 ? r[4] : need(rod, level);
        }

        // The greatest sums of the rods below k for each number of days; then, from the highest rod
        // down, a rod is taken only where the sum can't be had without it.
        private int[] plan(int n, int level) {
            int[][] best = new int[31][n + 1];
            for (int k = 0; k < 30; k++) {
                int need = need(k, level);
                for (int d = 0; d <= n; d++) {
                    boolean fits = rods[k][0] < level && need <= d;
                    best[k + 1][d] = Math.max(best[k][d], fits ? best[k][d - need] + rods[k][2] : 0);
                }
            }
            int heap = 0;
            int days = n;
            for (int k = 29; k >= 0; k--) {
                if (best[k][days] < best[k + 1][days]) {
                    heap |= 1 << k;
                    days -= need(k, level);
                }
            }
            return new int[] {best[30][n], heap};
        }

        private static int hours(int from, int to, int miles) {
            int hours = 0;
            while (hours * miles < Math.abs(from - to)) {
                hours++;
            }
            return hours;
        }

        private int arrived(int from, int rod, int hour) {
            if (!isIn(from, 0, 7) || !isIn(rod, 0, 29) || !isIn(hour, 0, 100)) {
                return -1;
            }
            int sum = 0;
            for (int v = 0; v < 8; v++) {
                boolean there = hours(miles[from], miles[v], 6) + hours(miles[v], 3 * rod, 3) <= hour;
                sum += there ? trueHands(v, now) : 0;
            }
            return sum;
        }

        private int count(int what) {
            int done = 0;
            for (int[] d : deeds) {
                done += d[3];
            }
            int days = 0;
            for (int[] b : bought) {
                days += b[2];
            }
            int[] counts = {now, houses.size(), laws.size(), tellings.size() - houses.size(), chest, loss, done, days, hired};
            return isIn(what, 0, 8) ? counts[what] : -1;
        }
    }
}
