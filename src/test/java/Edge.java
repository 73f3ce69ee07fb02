/**
 * An edge that the document names: the last input that is taken, and the first one that is refused.
 * A refused call is made on one of two objects with the same past; after it both must answer a long
 * row of calls alike, among them calls that would bring to light what no question shows at once.
 */
final class Edge {
    /** The past of an object. It has 100 calls at most, so that the row of calls behind it stays below 512. */
    interface Past {
        void of(DikeHands x);
    }

    /** A call with one of its arguments left open. */
    interface Call {
        long on(DikeHands x, int value);
    }

    // Next to the ends a wrong bound shows; far off, a sum or a shortened number that wraps around.
    private static final int[] FAR_OFF = {
        Integer.MIN_VALUE, Integer.MIN_VALUE + 1, -(1 << 30), -(1 << 16), -10000, -256, 10001, 1 << 15, 1 << 16,
        1 << 24, 1 << 30, Integer.MAX_VALUE - 1, Integer.MAX_VALUE
    };

    private final Due due;

    Edge(Due due) {
        this.due = due;
    }

    static long bit(boolean answer) {
        return answer ? 1 : 0;
    }

    /** Both ends are taken; what is next to them, and what is far off, is refused. */
    void range(String name, Past past, int least, int most, Call call, long refusal) {
        due.yes(name + " takes " + least, call.on(after(past), least) != refusal);
        due.yes(name + " takes " + most, call.on(after(past), most) != refusal);
        refused(name, past, call, refusal, least - 1, most + 1);
        refused(name, past, call, refusal, FAR_OFF);
    }

    void refused(String name, Past past, Call call, long refusal, int... values) {
        changesNothing(name, past, call, refusal, values);
    }

    void changesNothing(String name, Past past, Call call, long want, int... values) {
        String untouched = answersOf(after(past));
        for (int value : values) {
            DikeHands x = after(past);
            due.is(name + " of " + value, call.on(x, value), want);
            due.same("what is answered after " + name + " of " + value, answersOf(x), untouched);
        }
    }

    /** A call that is taken answers as due, and leaves something changed. */
    void taken(String name, Past past, Call call, long want, int value) {
        DikeHands x = after(past);
        due.is(name + " of " + value, call.on(x, value), want);
        due.no(name + " of " + value + " left all as it was", answersOf(x).equals(answersOf(after(past))));
    }

    static DikeHands after(Past past) {
        DikeHands x = new DikeHands();
        past.of(x);
        return x;
    }

    /**
     * Week 60: houses 0, 1, 2 in village 3 and 3 in village 4 owe 24, 12, 0 and 49 days in year 1, of which
     * 20, 9, 0 and 28 are owed yet; house 4 in village 3 came in week 52; house 1 is substitute for house 0;
     * 80 coins are in the chest, and a day costs 5; 4 laws and a change were told; a high water comes in week 70.
     */
    static void busy(DikeHands x) {
        x.village(3, 40);
        x.village(4, 61);
        x.rod(2, 1, 70);
        x.rod(29, 2, 900);
        x.law(0, 21001, 5);
        x.law(3, 12000, 3);
        x.law(9, 32000, 1);
        x.law(2, 22000, 2);
        x.house(3, 100, 4);
        x.house(3, 59, 2);
        x.house(3, 0, 3);
        x.house(4, 200, 9);
        x.river(3, 4, 800);
        x.river(70, 72, 1500);
        x.go(52);
        x.house(3, 80, 6);
        x.work(0, 2, 2, 0);
        x.work(1, 2, 2, 0);
        x.work(1, 7, 3, 1);
        x.buy(3, 21);
        x.hire(29, 4);
        x.hire(0, 1);
        x.go(8);
        x.change(0, 55, 90, 5);
    }

    /** Week 1039, the last one. */
    static void atTheLastWeek(DikeHands x) {
        busy(x);
        for (int i = 0; i < 9; i++) {
            x.go(104);
        }
        x.go(43);
    }

    /** Week 1040, behind the last one. */
    static void ended(DikeHands x) {
        atTheLastWeek(x);
        x.go(1);
    }

    /** Some 400 calls: what can be asked at once, and then what only comes to light as the years go on. */
    static String answersOf(DikeHands x) {
        StringBuilder s = new StringBuilder(askedAtOnce(x));
        for (int r = 0; r < 30; r++) {
            add(s, x.bank(r, 0, 0), x.bank(r, 2, 0), x.bank(r, 3, 3000));
        }
        add(s, x.bank(0, 1, 0), x.bank(2, 1, 0), x.saved(70, 1500), x.chosen(70, 1500));
        int week = x.count(0);
        addMiles(s, x);
        addYears(s, x);
        addDaysSince(week, s, x);
        for (int what = 0; what <= 8; what++) {
            add(s, x.count(what));
        }
        return s.toString();
    }

    /** Some 90 calls, none of which changes anything. */
    static String askedAtOnce(DikeHands x) {
        StringBuilder s = new StringBuilder();
        for (int what = 0; what <= 8; what++) {
            add(s, x.count(what));
        }
        int houses = x.count(1);
        for (int h = 0; h < Math.min(houses, 5); h++) {
            addHouse(s, x, h);
        }
        addHouse(s, x, houses - 1);
        for (int v = 0; v < 8; v++) {
            add(s, x.paperWeek(v));
        }
        return add(s, x.arrived(3, 10, 5), x.arrived(3, 10, 9), x.arrived(3, 10, 100)).toString();
    }

    private static void addHouse(StringBuilder s, DikeHands x, int h) {
        int year = x.count(0) / 52;
        add(s, x.listed(h, year, 0), x.listed(h, year, 1), x.owed(h, year - 1));
        for (int what = 0; what <= 6; what++) {
            add(s, x.told(h, year, what));
        }
    }

    // Six places of one village tell the very mile of another, though a rider's hour is six miles.
    private static void addMiles(StringBuilder s, DikeHands x) {
        for (int mile = 0; mile < 6; mile++) {
            x.village(0, mile);
            for (int v = 1; v < 8; v++) {
                add(s, x.called(0, v));
            }
        }
    }

    // Without hands, a village is paper by the first day that was counted for it since then.
    private static void addDaysSince(int week, StringBuilder s, DikeHands x) {
        for (int h = 0; h < 5; h++) {
            x.change(h, week, 0, 0);
        }
        add(s, x.paperWeek(3), x.paperWeek(4));
    }

    // What is bought tells a year's coin; what is worked tells whom a substitute of the past bars.
    private static void addYears(StringBuilder s, DikeHands x) {
        for (int i = 0; i < 20; i++) {
            add(s, x.buy(0, 1), x.work(4, 5, 1, 0), x.go(52), x.bank(2, 0, 0), x.count(5), x.told(0, i + 1, 0),
                x.arrived(3, 10, 100));
        }
    }

    private static StringBuilder add(StringBuilder s, long... answers) {
        for (long answer : answers) {
            s.append(answer).append(' ');
        }
        return s;
    }
}
