/**
 * Hands for the dikes: what houses owe, do, buy and let others do on the banks of a river,
 * how the rods of the bank wear and grow, which rods to raise ahead of a high water, who comes
 * when a call goes out, and which villages told more days than their hands can have worked.
 */
public final class DikeHands {
    public static final int NONE = -1;

    private static final int WEEKS = 1040;
    private static final int WEEKS_IN_YEAR = 52;
    private static final int YEARS = 20;
    private static final int VILLAGES = 8;
    private static final int RODS = 30;
    private static final int MOST_HOUSES = 40;
    private static final int MOST_CHANGES = 200;
    private static final int MOST_LAWS = 40;
    private static final int MOST_MILE = 99;
    private static final int MOST_SOIL = 2;
    private static final int MOST_LOSS = 10000;
    private static final int MOST_ACRES = 500;
    private static final int MOST_HANDS = 20;
    private static final int MOST_COIN = 100;
    private static final int MOST_LEVEL = 3000;
    private static final int MOST_PLAN_DAYS = 300;
    private static final int MOST_HIRED_DAYS = 1000;
    private static final int MOST_WEEKS_A_GO = 104;
    private static final int MOST_HOUR = 100;
    private static final int DAYS_OF_A_HAND = 6;
    private static final int MILES_BETWEEN_RODS = 3;
    private static final int RIDER_MILES = 6;
    private static final int WALKER_MILES = 3;

    private final Village[] villages = new Village[VILLAGES];
    private final Rod[] rods = new Rod[RODS];
    private final House[] houses = new House[MOST_HOUSES];
    private final LawBook laws = new LawBook();
    private final Plan plan = new Plan();
    private final int[] levels = new int[WEEKS];
    private int now = 0;
    private int houseCount = 0;
    private int changeCount = 0;
    private int chest = 0;
    private int lossCounted = 0;
    private int daysDone = 0;
    private int daysBought = 0;
    private int daysHired = 0;

    public DikeHands() {
        for (int v = 0; v < VILLAGES; v++) {
            villages[v] = new Village();
        }
        for (int r = 0; r < RODS; r++) {
            rods[r] = new Rod();
        }
    }

    public boolean village(int village, int mile) {
        if (!isVillage(village) || !isWithin(mile, MOST_MILE)) {
            return false;
        }
        villages[village].mile = mile;
        return true;
    }

    public boolean rod(int rod, int soil, int loss) {
        if (!isRod(rod) || !isWithin(soil, MOST_SOIL) || !isWithin(loss, MOST_LOSS)) {
            return false;
        }
        rods[rod].soil = soil;
        rods[rod].loss = loss;
        return true;
    }

    public int law(int year, int what, int coin) {
        if (!isWithin(year, YEARS - 1) || !Law.canBe(what) || !isWithin(coin, MOST_COIN) || laws.isFull()) {
            return NONE;
        }
        laws.add(new Law(year, what, coin));
        return laws.size;
    }

    public int house(int village, int acres, int hands) {
        if (!isVillage(village) || !isHolding(acres, hands) || houseCount >= MOST_HOUSES) {
            return NONE;
        }
        houses[houseCount] = new House(village, now, acres, hands);
        houseCount++;
        return houseCount - 1;
    }

    public boolean change(int house, int week, int acres, int hands) {
        if (!isHouse(house) || !isHolding(acres, hands) || changeCount >= MOST_CHANGES) {
            return false;
        }
        if (week > now || week < houses[house].came) {
            return false;
        }
        houses[house].learn(now, week, acres, hands);
        changeCount++;
        return true;
    }

    public int listed(int house, int year, int what) {
        if (!isHouse(house) || !isYearSoFar(year)) {
            return NONE;
        }
        Telling list = houses[house].toldAheadOf(year * WEEKS_IN_YEAR);
        if (list == null) {
            return NONE;
        }
        switch (what) {
            case 0: return list.acres;
            case 1: return list.hands;
            default: return NONE;
        }
    }

    public int owed(int house, int year) {
        if (!isHouse(house) || !isYearSoFar(year)) {
            return NONE;
        }
        return daysOwed(houses[house], year);
    }

    public int work(int house, int rod, int n, int forWhom) {
        if (!isHouse(house) || !isRod(rod) || !isHouse(forWhom) || now >= WEEKS) {
            return NONE;
        }
        int year = yearNow();
        House worker = houses[house];
        House debtor = houses[forWhom];
        if (n < 1 || n > daysOwedYet(debtor, year)) {
            return NONE;
        }
        if (house == forWhom) {
            debtor.byItself[year] += n;
        } else if (canSubstitute(house, debtor, year)) {
            debtor.substitute[year] = house;
            debtor.bySubstitute[year] += n;
            worker.asSubstitute[year] += n;
        } else {
            return NONE;
        }
        villages[worker.home].addDays(now, n);
        rods[rod].raise(n);
        daysDone += n;
        return daysOwedYet(debtor, year);
    }

    public int buy(int house, int n) {
        if (!isHouse(house) || now >= WEEKS) {
            return NONE;
        }
        int year = yearNow();
        if (n < 1 || n > daysOwedYet(houses[house], year)) {
            return NONE;
        }
        houses[house].bought[year] += n;
        daysBought += n;
        chest += n * laws.ofYear(year).coin;
        return chest;
    }

    public int hire(int rod, int n) {
        if (!isRod(rod) || n < 1 || n > MOST_HIRED_DAYS) {
            return NONE;
        }
        int coin = laws.ofYear(yearNow()).coin;
        if (coin == 0 || n * coin > chest) {
            return NONE;
        }
        chest -= n * coin;
        rods[rod].raise(n);
        daysHired += n;
        return chest;
    }

    public boolean river(int from, int to, int level) {
        if (from < now || to < from || to >= WEEKS || !isWithin(level, MOST_LEVEL)) {
            return false;
        }
        for (int week = from; week <= to; week++) {
            levels[week] = level;
        }
        return true;
    }

    public int go(int n) {
        if (!isWithin(n, MOST_WEEKS_A_GO)) {
            return NONE;
        }
        for (int i = 0; i < n && now < WEEKS; i++) {
            endWeek(levels[now]);
            now++;
        }
        return now;
    }

    public int told(int house, int year, int what) {
        if (!isHouse(house) || !isYearSoFar(year)) {
            return NONE;
        }
        House asked = houses[house];
        switch (what) {
            case 0: return daysOwed(asked, year);
            case 1: return asked.byItself[year];
            case 2: return asked.bySubstitute[year];
            case 3: return asked.bought[year];
            case 4: return daysOwedYet(asked, year);
            case 5: return asked.substitute[year];
            case 6: return asked.asSubstitute[year];
            default: return NONE;
        }
    }

    public boolean paper(int village) {
        return firstPaperWeek(village) != NONE;
    }

    public int paperWeek(int village) {
        return firstPaperWeek(village);
    }

    public int bank(int rod, int what, int level) {
        if (!isRod(rod)) {
            return NONE;
        }
        switch (what) {
            case 0: return rods[rod].height;
            case 1: return rods[rod].breaks;
            case 2: return rods[rod].days;
            case 3: return isWithin(level, MOST_LEVEL) ? rods[rod].daysTo(level) : NONE;
            default: return NONE;
        }
    }

    public int saved(int n, int l) {
        if (!isWithin(n, MOST_PLAN_DAYS) || !isWithin(l, MOST_LEVEL)) {
            return NONE;
        }
        return Plan.lossOf(plan.bestWorth(rods, n, l));
    }

    public int chosen(int n, int l) {
        if (!isWithin(n, MOST_PLAN_DAYS) || !isWithin(l, MOST_LEVEL)) {
            return NONE;
        }
        return Plan.heapOf(plan.bestWorth(rods, n, l));
    }

    public int called(int from, int village) {
        if (!isVillage(from) || !isVillage(village)) {
            return NONE;
        }
        return hourOfCall(from, village);
    }

    public int arrived(int from, int rod, int hour) {
        if (!isVillage(from) || !isRod(rod) || !isWithin(hour, MOST_HOUR)) {
            return NONE;
        }
        int hands = 0;
        for (int v = 0; v < VILLAGES; v++) {
            int walk = hoursFor(villages[v].mile, rod * MILES_BETWEEN_RODS, WALKER_MILES);
            if (hourOfCall(from, v) + walk <= hour) {
                hands += trueHands(v, now);
            }
        }
        return hands;
    }

    public int count(int what) {
        switch (what) {
            case 0: return now;
            case 1: return houseCount;
            case 2: return laws.size;
            case 3: return changeCount;
            case 4: return chest;
            case 5: return lossCounted;
            case 6: return daysDone;
            case 7: return daysBought;
            case 8: return daysHired;
            default: return NONE;
        }
    }

    private static boolean isWithin(int value, int most) {
        return value >= 0 && value <= most;
    }

    private static boolean isVillage(int village) {
        return isWithin(village, VILLAGES - 1);
    }

    private static boolean isRod(int rod) {
        return isWithin(rod, RODS - 1);
    }

    private static boolean isHolding(int acres, int hands) {
        return isWithin(acres, MOST_ACRES) && isWithin(hands, MOST_HANDS);
    }

    private boolean isHouse(int house) {
        return isWithin(house, houseCount - 1);
    }

    private boolean isYearSoFar(int year) {
        return isWithin(year, yearNow());
    }

    private int yearNow() {
        return now / WEEKS_IN_YEAR;
    }

    private int daysOwed(House house, int year) {
        Telling list = house.toldAheadOf(year * WEEKS_IN_YEAR);
        return list == null ? 0 : laws.ofYear(year).daysFor(list);
    }

    // A law told later may lower what is owed below what was met: then nothing is owed yet.
    private int daysOwedYet(House house, int year) {
        return Math.max(0, daysOwed(house, year) - house.daysMet(year));
    }

    private boolean canSubstitute(int worker, House debtor, int year) {
        int bound = debtor.substitute[year];
        return houses[worker].home == debtor.home && (bound == NONE || bound == worker);
    }

    private void endWeek(int level) {
        for (int r = 0; r < RODS; r++) {
            lossCounted += rods[r].wear(level);
        }
    }

    private int trueHands(int village, int week) {
        int hands = 0;
        for (int h = 0; h < houseCount; h++) {
            if (houses[h].home == village) {
                hands += houses[h].handsIn(week);
            }
        }
        return hands;
    }

    private int firstPaperWeek(int village) {
        if (!isVillage(village)) {
            return NONE;
        }
        for (WorkWeek w = villages[village].firstWork; w != null; w = w.next) {
            if (w.days > DAYS_OF_A_HAND * trueHands(village, w.week)) {
                return w.week;
            }
        }
        return NONE;
    }

    private int hourOfCall(int from, int village) {
        return hoursFor(villages[from].mile, villages[village].mile, RIDER_MILES);
    }

    private static int hoursFor(int fromMile, int toMile, int milesAnHour) {
        return dividedUp(Math.abs(fromMile - toMile), milesAnHour);
    }

    private static int dividedUp(int whole, int part) {
        return part <= 0 ? 0 : (whole + part - 1) / part;
    }

    /** What was told of a house in one week, true from another week on. */
    private static final class Telling {
        final int told;
        final int from;
        final int acres;
        final int hands;
        final Telling earlier;

        Telling(int told, int from, int acres, int hands, Telling earlier) {
            this.told = told;
            this.from = from;
            this.acres = acres;
            this.hands = hands;
            this.earlier = earlier;
        }
    }

    /** A house: all that was told of it, and its days of each year. */
    private static final class House {
        // Year 20 has a place too: once the last week ended, it can be asked for.
        private static final int PLACES = YEARS + 1;

        final int home;
        final int came;
        final int[] byItself = new int[PLACES];
        final int[] bySubstitute = new int[PLACES];
        final int[] bought = new int[PLACES];
        final int[] asSubstitute = new int[PLACES];
        final int[] substitute = new int[PLACES];
        private Telling latest;

        House(int home, int came, int acres, int hands) {
            this.home = home;
            this.came = came;
            this.latest = new Telling(came, came, acres, hands, null);
            for (int year = 0; year < PLACES; year++) {
                substitute[year] = NONE;
            }
        }

        void learn(int told, int from, int acres, int hands) {
            latest = new Telling(told, from, acres, hands, latest);
        }

        Telling toldAheadOf(int week) {
            for (Telling t = latest; t != null; t = t.earlier) {
                if (t.told < week) {
                    return t;
                }
            }
            return null;
        }

        // The chain goes from the latest told back, so of like weeks the first one met stays.
        int handsIn(int week) {
            int bestFrom = NONE;
            int hands = 0;
            for (Telling t = latest; t != null; t = t.earlier) {
                if (t.from <= week && t.from > bestFrom) {
                    bestFrom = t.from;
                    hands = t.hands;
                }
            }
            return hands;
        }

        int daysMet(int year) {
            return byItself[year] + bySubstitute[year] + bought[year];
        }
    }

    /** A law, told for a year and those behind it. */
    private static final class Law {
        private static final int TEN_ACRES_UNIT = 10000;
        private static final int HAND_UNIT = 1000;
        private static final int MOST_WHAT = 99999;

        final int year;
        final int daysForTenAcres;
        final int daysForHand;
        final int exempt;
        final int coin;

        Law(int year, int what, int coin) {
            this.year = year;
            this.daysForTenAcres = what / TEN_ACRES_UNIT;
            this.daysForHand = what % TEN_ACRES_UNIT / HAND_UNIT;
            this.exempt = what % HAND_UNIT;
            this.coin = coin;
        }

        static boolean canBe(int what) {
            return isWithin(what, MOST_WHAT) && what % HAND_UNIT <= MOST_ACRES;
        }

        int daysFor(Telling list) {
            if (list.acres < exempt) {
                return 0;
            }
            return list.acres / 10 * daysForTenAcres + list.hands * daysForHand;
        }
    }

    /** The laws in the order in which they were told. */
    private static final class LawBook {
        private final Law[] laws = new Law[MOST_LAWS];
        private final Law noLaw = new Law(0, 0, 0);
        int size = 0;

        boolean isFull() {
            return size >= MOST_LAWS;
        }

        void add(Law law) {
            if (!isFull()) {
                laws[size] = law;
                size++;
            }
        }

        Law ofYear(int year) {
            Law best = noLaw;
            for (int i = 0; i < size; i++) {
                if (laws[i].year <= year && laws[i].year >= best.year) {
                    best = laws[i];
                }
            }
            return best;
        }
    }

    /** The days that the houses of one village did in one week. */
    private static final class WorkWeek {
        final int week;
        int days;
        WorkWeek next;

        WorkWeek(int week) {
            this.week = week;
        }
    }

    /** A village: where it is, and the weeks in which its houses worked, first ones first. */
    private static final class Village {
        int mile = 0;
        WorkWeek firstWork;
        private WorkWeek lastWork;

        // Work is done in the present week alone, so a new week always goes to the end.
        void addDays(int week, int n) {
            if (lastWork == null) {
                firstWork = new WorkWeek(week);
                lastWork = firstWork;
            } else if (lastWork.week != week) {
                lastWork.next = new WorkWeek(week);
                lastWork = lastWork.next;
            }
            lastWork.days += n;
        }
    }

    /** A rod of the bank. */
    private static final class Rod {
        private static final int FIRST_HEIGHT = 1000;
        private static final int MOST_HEIGHT = 3000;
        private static final int LEVEL_FOR_WEAR = 100;

        int height = FIRST_HEIGHT;
        int soil = 0;
        int loss = 0;
        int breaks = 0;
        int days = 0;

        private int growthOfDay() {
            switch (soil) {
                case 0: return 30;
                case 1: return 20;
                default: return 10;
            }
        }

        void raise(int n) {
            height = Math.min(MOST_HEIGHT, height + n * growthOfDay());
            days += n;
        }

        int daysTo(int level) {
            return level <= height ? 0 : dividedUp(level - height, growthOfDay());
        }

        // Answers the loss that this week's water made here.
        int wear(int level) {
            if (level > height) {
                height = 0;
                breaks++;
                return loss;
            }
            height -= level / LEVEL_FOR_WEAR;
            return 0;
        }
    }

    /** Which rods to raise with so many days: the heap that saves most, and of like ones the least. */
    private static final class Plan {
        private static final int HEAP_BITS = RODS;
        private static final long HEAP_END = 1L << HEAP_BITS;

        // One number ranks heaps by their loss first and, of like losses, the least heap highest:
        // the loss times 2^30 less the heap. It adds up over rods, as loss and heap both do.
        private final long[] worthWithin = new long[MOST_PLAN_DAYS + 1];

        long bestWorth(Rod[] rods, int n, int level) {
            if (!isWithin(n, MOST_PLAN_DAYS)) {
                return 0;
            }
            for (int d = 0; d <= n; d++) {
                worthWithin[d] = 0;
            }
            for (int r = 0; r < rods.length; r++) {
                if (rods[r].height < level) {
                    offer(rods[r].daysTo(level), ((long) rods[r].loss << HEAP_BITS) - (1L << r), n);
                }
            }
            return worthWithin[n];
        }

        // From many days to few, so that no rod is taken twice; a rod below the level needs a day at least.
        private void offer(int need, long worth, int n) {
            if (need < 1 || worth <= 0) {
                return;
            }
            for (int d = n; d >= need; d--) {
                worthWithin[d] = Math.max(worthWithin[d], worthWithin[d - need] + worth);
            }
        }

        static int lossOf(long worth) {
            return (int) ((worth + HEAP_END - 1) >> HEAP_BITS);
        }

        static int heapOf(long worth) {
            return (int) (((long) lossOf(worth) << HEAP_BITS) - worth);
        }
    }
}
