/** The edges of promises 9, 10, 11 and 14: days that are done, bought and hired, and what is told of them. */
public final class EdgeDaysTest {
    private static final Due DUE = new Due();
    private static final Edge EDGE = new Edge(DUE);

    public static void main(String[] args) {
        workOfHousesAndRods();
        workOfOneDayToWhatIsOwedYet();
        workForAHouse();
        noHouseAtAll();
        noOtherSubstituteInThisYear();
        aSubstituteOfTheSameVillage();
        asSubstituteOneDayToWhatIsOwedYet();
        aSubstituteThatIsRefusedIsNone();
        aNewYearBeginsAnew();
        noWorkBehindTheLastWeek();
        buyOfAHouse();
        buyOfOneDayToWhatIsOwedYet();
        noBuyingBehindTheLastWeek();
        neverMoreThanIsOwed();
        nothingOwedYetIfMoreWasMet();
        hireOfARod();
        hireOfOneTo1000Days();
        hireOfWhatTheChestHas();
        noHiringForNoCoin();
        hiringBehindTheLastWeek();
        toldOfHousesYearsAndWhat();
        noneIsTheSubstituteOfMost();
        oneSubstituteForSeveralHouses();
        DUE.end();
    }

    /** Promise 9: "NONE if there is none such". */
    private static void workOfHousesAndRods() {
        EDGE.range("work of a rod", Edge::busy, 0, 29, (x, r) -> x.work(0, r, 1, 0), -1);
        EDGE.taken("work of a rod", Edge::busy, (x, r) -> x.work(0, r, 1, 0), 19, 0);
        EDGE.taken("work of a rod", Edge::busy, (x, r) -> x.work(0, r, 1, 0), 19, 29);
        EDGE.range("work of a house", EdgeDaysTest::allOwe, 0, 4, (x, h) -> x.work(h, 0, 1, h), -1);
        EDGE.taken("work of a house", EdgeDaysTest::allOwe, (x, h) -> x.work(h, 0, 1, h), 27, 0);
        EDGE.taken("work of a house", EdgeDaysTest::allOwe, (x, h) -> x.work(h, 0, 1, h), 27, 4);
        EDGE.refused("work for house 0 by", EdgeDaysTest::allOwe, (x, h) -> x.work(h, 0, 1, 0), -1, -1, 5, 6, 40);
    }

    // Week 104: the five houses owe 28, 14, 6, 58 and 28 days in year 2.
    private static void allOwe(DikeHands x) {
        Edge.busy(x);
        x.go(44);
    }

    /** Promise 9: "n isn't 1 .. what is OWED there yet". */
    private static void workOfOneDayToWhatIsOwedYet() {
        EDGE.range("work of n days", Edge::busy, 1, 20, (x, n) -> x.work(0, 5, n, 0), -1);
        EDGE.taken("work of n days", Edge::busy, (x, n) -> x.work(0, 5, n, 0), 19, 1);
        EDGE.taken("work of n days", Edge::busy, (x, n) -> x.work(0, 5, n, 0), 0, 20);
        EDGE.refused("work where nothing is owed", Edge::busy, (x, n) -> x.work(2, 5, n, 2), -1, -1, 0, 1, 2);
        EDGE.refused("work where one isn't listed", Edge::busy, (x, n) -> x.work(4, 5, n, 4), -1, -1, 0, 1, 2);
        DikeHands x = Edge.after(Edge::busy);
        DUE.is("all but one", x.work(0, 5, 19, 0), 1);
        DUE.is("two of one", x.work(0, 5, 2, 0), -1);
        DUE.is("the last one", x.work(0, 5, 1, 0), 0);
        DUE.is("one of none", x.work(0, 5, 1, 0), -1);
        DUE.is("none of none", x.work(0, 5, 0, 0), -1);
        DUE.is("days done", x.count(6), 27);
    }

    /** Promise 9: "for a HOUSE (itself, or as SUBSTITUTE) .. NONE if there is none such". */
    private static void workForAHouse() {
        EDGE.range("work for a house", EdgeDaysTest::allOwe, 0, 2, (x, h) -> x.work(1, 5, 1, h), -1);
        EDGE.taken("work for a house", Edge::busy, (x, h) -> x.work(1, 5, 1, h), 19, 0);
        EDGE.taken("work for a house", Edge::busy, (x, h) -> x.work(1, 5, 1, h), 8, 1);
        EDGE.taken("work for the last house", EdgeDaysTest::allOwe, (x, h) -> x.work(1, 5, 28, h), 0, 4);
        EDGE.refused("work for none such", EdgeDaysTest::allOwe, (x, h) -> x.work(4, 5, 1, h), -1, -1, 5, 6, 40);
    }

    private static void noHouseAtAll() {
        Edge.Past empty = x -> x.law(0, 99000, 1);
        EDGE.refused("work with no houses", empty, (x, h) -> x.work(h, 0, 1, h), -1, -1, 0, 1, 39, 40);
        EDGE.refused("buy with no houses", empty, (x, h) -> x.buy(h, 1), -1, -1, 0, 1, 39, 40);
        EDGE.refused("told with no houses", empty, (x, h) -> x.told(h, 0, 5), -1, -1, 0, 1, 39, 40);
        EDGE.refused("hire with no coin", empty, (x, r) -> x.hire(r, 1), -1, -1, 0, 29, 30);
    }

    /** Part 2: "another HOUSE .. that has no other one in this YEAR". */
    private static void noOtherSubstituteInThisYear() {
        EDGE.refused("work of another substitute", Edge::busy, (x, h) -> x.work(h, 5, 1, 0), -1, 2, 4);
        DikeHands x = Edge.after(Edge::busy);
        DUE.is("the first one stays: work(1, 5, 1, 0)", x.work(1, 5, 1, 0), 19);
        DUE.is("another one: work(2, 5, 1, 0)", x.work(2, 5, 1, 0), -1);
        DUE.is("itself: work(0, 5, 1, 0)", x.work(0, 5, 1, 0), 18);
        DUE.is("who has one may be one: work(0, 5, 1, 1)", x.work(0, 5, 1, 1), 8);
        DUE.is("another one: work(2, 5, 1, 1)", x.work(2, 5, 1, 1), -1);
        DUE.is("the year's last week", x.go(43), 103);
        DUE.is("another one in week 103: work(2, 5, 1, 0)", x.work(2, 5, 1, 0), -1);
        DUE.is("the first one in week 103: work(1, 5, 1, 0)", x.work(1, 5, 1, 0), 17);
        DUE.is("a week more", x.go(1), 104);
        DUE.is("another one in week 104: work(2, 5, 1, 0)", x.work(2, 5, 1, 0), 27);
        DUE.is("the first one in week 104: work(1, 5, 1, 0)", x.work(1, 5, 1, 0), -1);
        DUE.is("told(0, 1, 5)", x.told(0, 1, 5), 1);
        DUE.is("told(0, 2, 5)", x.told(0, 2, 5), 2);
    }

    /** Part 2: "SUBSTITUTE for another HOUSE of its VILLAGE". */
    private static void aSubstituteOfTheSameVillage() {
        EDGE.refused("work by another village for", Edge::busy, (x, h) -> x.work(3, 5, 1, h), -1, 0, 1, 2, 4);
        EDGE.refused("work for another village by", Edge::busy, (x, h) -> x.work(h, 5, 1, 3), -1, 0, 1, 2, 4);
        Edge.Past neighbours = x -> {
            x.law(0, 20000, 1);
            x.house(6, 50, 1);
            x.house(7, 50, 1);
            x.house(7, 50, 1);
            x.go(52);
        };
        EDGE.refused("the village next to it", neighbours, (x, h) -> x.work(h, 5, 1, 0), -1, 1, 2);
        EDGE.taken("of village 7", neighbours, (x, h) -> x.work(h, 5, 1, 1), 9, 2);
        EDGE.taken("of village 7", neighbours, (x, h) -> x.work(h, 5, 1, 2), 9, 1);
    }

    /** Promise 9: "n isn't 1 .. what is OWED there yet", where the days are for another HOUSE. */
    private static void asSubstituteOneDayToWhatIsOwedYet() {
        EDGE.range("work as substitute", Edge::busy, 1, 20, (x, n) -> x.work(1, 5, n, 0), -1);
        EDGE.taken("work as substitute", Edge::busy, (x, n) -> x.work(1, 5, n, 0), 19, 1);
        EDGE.taken("work as substitute", Edge::busy, (x, n) -> x.work(1, 5, n, 0), 0, 20);
        EDGE.range("work of one that owes nothing", Edge::busy, 1, 9, (x, n) -> x.work(2, 5, n, 1), -1);
        EDGE.range("work of one that isn't listed", Edge::busy, 1, 9, (x, n) -> x.work(4, 5, n, 1), -1);
        EDGE.refused("work for one that owes nothing", Edge::busy, (x, n) -> x.work(0, 5, n, 2), -1, 0, 1, 20);
        EDGE.refused("work for one that isn't listed", Edge::busy, (x, n) -> x.work(0, 5, n, 4), -1, 0, 1, 20);
    }

    /** "What is refused changes nothing": one whose days were refused is no SUBSTITUTE. */
    private static void aSubstituteThatIsRefusedIsNone() {
        DikeHands x = Edge.after(Edge::busy);
        DUE.is("too many days: work(0, 5, 10, 1)", x.work(0, 5, 10, 1), -1);
        DUE.is("no day: work(0, 5, 0, 1)", x.work(0, 5, 0, 1), -1);
        DUE.is("no such rod: work(0, 30, 1, 1)", x.work(0, 30, 1, 1), -1);
        DUE.is("told(1, 1, 5)", x.told(1, 1, 5), -1);
        DUE.is("told(0, 1, 6)", x.told(0, 1, 6), 0);
        DUE.is("another one may come: work(2, 5, 9, 1)", x.work(2, 5, 9, 1), 0);
        DUE.is("told(1, 1, 5)", x.told(1, 1, 5), 2);
        DUE.is("told(1, 1, 2)", x.told(1, 1, 2), 9);
        DUE.is("told(2, 1, 6)", x.told(2, 1, 6), 9);
    }

    /** Part 2: all count "in NOW's YEAR". */
    private static void aNewYearBeginsAnew() {
        DikeHands x = Edge.after(Edge::busy);
        x.go(43);
        DUE.is("week 103: all of year 1", x.work(0, 5, 20, 0), 0);
        DUE.is("week 103: one more", x.work(0, 5, 1, 0), -1);
        x.go(1);
        DUE.is("week 104: one too many", x.work(0, 5, 29, 0), -1);
        DUE.is("week 104: all of year 2", x.work(0, 5, 28, 0), 0);
        DUE.is("told(0, 1, 1)", x.told(0, 1, 1), 22);
        DUE.is("told(0, 1, 4)", x.told(0, 1, 4), 0);
        DUE.is("told(0, 2, 1)", x.told(0, 2, 1), 28);
        DUE.is("told(0, 2, 2)", x.told(0, 2, 2), 0);
        DUE.is("told(0, 2, 5)", x.told(0, 2, 5), -1);
        DUE.is("told(1, 2, 6)", x.told(1, 2, 6), 0);
    }

    /** Promise 9: NONE if "NOW is 1040". */
    private static void noWorkBehindTheLastWeek() {
        EDGE.refused("work at the end", Edge::ended, (x, n) -> x.work(0, 5, n, 0), -1, -1, 0, 1, 2, 20);
        EDGE.refused("work at the end for another", Edge::ended, (x, n) -> x.work(1, 5, n, 0), -1, -1, 0, 1, 2, 20);
        EDGE.range("work in the last week", Edge::atTheLastWeek, 1, 37, (x, n) -> x.work(0, 5, n, 0), -1);
        EDGE.range("work for another in the last week", Edge::atTheLastWeek, 1, 37, (x, n) -> x.work(1, 5, n, 0), -1);
        DikeHands x = Edge.after(Edge::atTheLastWeek);
        x.work(1, 5, 7, 0);
        x.go(1);
        DUE.is("told(0, 19, 2)", x.told(0, 19, 2), 7);
        DUE.is("told(0, 19, 5)", x.told(0, 19, 5), 1);
        DUE.is("told(0, 20, 4)", x.told(0, 20, 4), 37);
        DUE.is("told(0, 20, 5)", x.told(0, 20, 5), -1);
    }

    /** Promise 10: "NONE if there is none such". */
    private static void buyOfAHouse() {
        EDGE.range("buy of a house", EdgeDaysTest::allOwe, 0, 4, (x, h) -> x.buy(h, 1), -1);
        EDGE.taken("buy of a house", Edge::busy, (x, h) -> x.buy(h, 1), 85, 0);
        EDGE.taken("buy of a house", Edge::busy, (x, h) -> x.buy(h, 1), 85, 3);
        EDGE.refused("buy of a house", Edge::busy, (x, h) -> x.buy(h, 1), -1, 2, 4, 5, 6, 40);
    }

    /** Promise 10: "n isn't 1 .. what is OWED yet". */
    private static void buyOfOneDayToWhatIsOwedYet() {
        EDGE.range("buy of n days", Edge::busy, 1, 20, (x, n) -> x.buy(0, n), -1);
        EDGE.taken("buy of n days", Edge::busy, (x, n) -> x.buy(0, n), 85, 1);
        EDGE.taken("buy of n days", Edge::busy, (x, n) -> x.buy(0, n), 180, 20);
        EDGE.range("buy of days after others", Edge::busy, 1, 28, (x, n) -> x.buy(3, n), -1);
        EDGE.refused("buy where nothing is owed", Edge::busy, (x, n) -> x.buy(2, n), -1, -1, 0, 1, 2);
        EDGE.refused("buy where one isn't listed", Edge::busy, (x, n) -> x.buy(4, n), -1, -1, 0, 1, 2);
        DikeHands x = Edge.after(Edge::busy);
        DUE.is("all but one", x.buy(0, 19), 175);
        DUE.is("two of one", x.buy(0, 2), -1);
        DUE.is("the last one", x.buy(0, 1), 180);
        DUE.is("one of none", x.buy(0, 1), -1);
        DUE.is("days bought", x.count(7), 41);
    }

    /** Promise 10: NONE if "NOW is 1040". */
    private static void noBuyingBehindTheLastWeek() {
        EDGE.refused("buy at the end", Edge::ended, (x, n) -> x.buy(0, n), -1, -1, 0, 1, 2, 20);
        EDGE.range("buy in the last week", Edge::atTheLastWeek, 1, 37, (x, n) -> x.buy(0, n), -1);
        DikeHands x = Edge.after(Edge::atTheLastWeek);
        DUE.is("buy(0, 37)", x.buy(0, 37), 117);
        x.go(1);
        DUE.is("told(0, 19, 3)", x.told(0, 19, 3), 37);
        DUE.is("told(0, 20, 3)", x.told(0, 20, 3), 0);
    }

    /** Part 2: "never more than is OWED and not yet met", by days of all three kinds together. */
    private static void neverMoreThanIsOwed() {
        EDGE.refused("two of the last one, done", EdgeDaysTest::oneIsOwedYet, (y, h) -> y.work(h, 5, 2, 0), -1, 0, 1);
        EDGE.refused("two of the last one, bought", EdgeDaysTest::oneIsOwedYet, (y, n) -> y.buy(0, n), -1, 2, 3);
        EDGE.taken("the last one, done", EdgeDaysTest::oneIsOwedYet, (y, h) -> y.work(h, 5, 1, 0), 0, 0);
        EDGE.taken("the last one, by a substitute", EdgeDaysTest::oneIsOwedYet, (y, h) -> y.work(h, 5, 1, 0), 0, 1);
        EDGE.taken("the last one, bought", EdgeDaysTest::oneIsOwedYet, (y, n) -> y.buy(0, n), 120, 1);
    }

    private static void oneIsOwedYet(DikeHands x) {
        Edge.busy(x);
        x.work(0, 5, 6, 0);
        x.work(1, 5, 6, 0);
        x.buy(0, 7);
    }

    /** Part 2: "what is OWED yet is 0, if more was met than is OWED now". */
    private static void nothingOwedYetIfMoreWasMet() {
        int[][] lawAndYet = {{5000, 16}, {1001, 0}, {1000, 0}, {0, 0}, {101, 0}};
        for (int[] a : lawAndYet) {
            DikeHands x = Edge.after(Edge::busy);
            x.law(1, a[0], 5);
            DUE.is("law " + a[0] + ": told(0, 1, 4)", x.told(0, 1, 4), a[1]);
            DUE.is("law " + a[0] + ": one more than that", x.work(0, 5, a[1] + 1, 0), -1);
            DUE.is("law " + a[0] + ": what was met", x.told(0, 1, 1) + x.told(0, 1, 2), 4);
        }
        Edge.Past lessIsOwed = x -> {
            Edge.busy(x);
            x.law(1, 0, 5);
        };
        EDGE.refused("work, if more was met", lessIsOwed, (x, n) -> x.work(0, 5, n, 0), -1, -4, -1, 0, 1);
        EDGE.refused("work for it, if more was met", lessIsOwed, (x, n) -> x.work(1, 5, n, 0), -1, -4, -1, 0, 1);
        EDGE.refused("buy, if more was met", lessIsOwed, (x, n) -> x.buy(0, n), -1, -4, -1, 0, 1);
        DikeHands x = Edge.after(lessIsOwed);
        x.law(1, 1000, 5);
        DUE.is("as much as was met: told(0, 1, 0)", x.told(0, 1, 0), 4);
        DUE.is("as much as was met: told(0, 1, 4)", x.told(0, 1, 4), 0);
        x.law(1, 2000, 5);
        DUE.is("a law that asks more: told(0, 1, 4)", x.told(0, 1, 4), 4);
        DUE.is("a law that asks more: work(0, 5, 4, 0)", x.work(0, 5, 4, 0), 0);
    }

    /** Promise 11: "NONE if there is no such ROD". */
    private static void hireOfARod() {
        EDGE.range("hire of a rod", Edge::busy, 0, 29, (x, r) -> x.hire(r, 1), -1);
        EDGE.taken("hire of a rod", Edge::busy, (x, r) -> x.hire(r, 1), 75, 0);
        EDGE.taken("hire of a rod", Edge::busy, (x, r) -> x.hire(r, 1), 75, 29);
    }

    /** Promise 11: "n isn't 1 .. 1000". */
    private static void hireOfOneTo1000Days() {
        EDGE.range("hire of n days", EdgeDaysTest::rich, 1, 1000, (x, n) -> x.hire(5, n), -1);
        EDGE.taken("hire of n days", EdgeDaysTest::rich, (x, n) -> x.hire(5, n), 2879, 1);
        EDGE.taken("hire of n days", EdgeDaysTest::rich, (x, n) -> x.hire(5, n), 1880, 1000);
        DikeHands x = Edge.after(EdgeDaysTest::rich);
        x.hire(5, 1000);
        DUE.is("1000 days at a rod: bank(5, 2, 0)", x.bank(5, 2, 0), 1000);
        DUE.is("1000 days at a rod: bank(5, 0, 0)", x.bank(5, 0, 0), 3000);
        DUE.is("count(8)", x.count(8), 1005);
    }

    // 2880 coins in the chest, and a day costs one.
    private static void rich(DikeHands x) {
        Edge.busy(x);
        x.law(1, 21001, 100);
        x.buy(3, 28);
        x.law(1, 21001, 1);
    }

    /** Promise 11: NONE if "there isn't so much"; what is in the chest may go wholly. */
    private static void hireOfWhatTheChestHas() {
        EDGE.range("hire of what the chest has", Edge::busy, 1, 16, (x, n) -> x.hire(5, n), -1);
        EDGE.taken("hire of what the chest has", Edge::busy, (x, n) -> x.hire(5, n), 0, 16);
        int[][] coinAndDays = {{1, 80}, {3, 26}, {7, 11}, {16, 5}, {79, 1}, {80, 1}, {81, 0}, {100, 0}};
        for (int[] a : coinAndDays) {
            DikeHands x = Edge.after(Edge::busy);
            x.law(1, 21001, a[0]);
            DUE.is("a day too many for " + a[0], x.hire(5, a[1] + 1), -1);
            DUE.is("as many as there are for " + a[0], x.hire(5, a[1]), a[1] == 0 ? -1 : 80 - a[0] * a[1]);
            DUE.is("what is in the chest", x.count(4), 80 - a[0] * a[1]);
            DUE.is("one more", x.hire(5, 1), -1);
        }
        EDGE.refused("hire with an empty chest", x -> x.law(0, 0, 1), (x, n) -> x.hire(5, n), -1, 0, 1, 2, 1000);
    }

    /** Promise 11: NONE if "the COIN of a day is 0". */
    private static void noHiringForNoCoin() {
        Edge.Past noCoin = x -> {
            Edge.busy(x);
            x.law(1, 21001, 0);
        };
        EDGE.refused("hire for no coin", noCoin, (x, n) -> x.hire(5, n), -1, -1, 0, 1, 2, 16, 1000);
        EDGE.refused("hire without a law", x -> { }, (x, n) -> x.hire(5, n), -1, -1, 0, 1, 2, 1000);
        DikeHands x = Edge.after(noCoin);
        x.law(1, 21001, 1);
        DUE.is("for a coin of 1: hire(5, 80)", x.hire(5, 80), 0);
    }

    /** Promise 11 says nothing of NOW 1040: the COIN is the one of the YEAR behind the last one. */
    private static void hiringBehindTheLastWeek() {
        EDGE.range("hire at the end", Edge::ended, 1, 80, (x, n) -> x.hire(5, n), -1);
        DikeHands x = Edge.after(Edge::ended);
        x.law(19, 0, 9);
        DUE.is("hire(5, 9)", x.hire(5, 9), -1);
        DUE.is("hire(5, 8)", x.hire(5, 8), 8);
    }

    /** Promise 14: "NONE for others, or if there is no such HOUSE or YEAR (0 .. that of NOW)". */
    private static void toldOfHousesYearsAndWhat() {
        EDGE.range("told of a house", Edge::busy, 0, 4, (x, h) -> x.told(h, 1, 0), -1);
        EDGE.range("told of a year", Edge::busy, 0, 1, (x, y) -> x.told(0, y, 1), -1);
        EDGE.range("told of what", Edge::busy, 0, 6, (x, w) -> x.told(0, 1, w), -1);
        EDGE.range("told of a year, at the end", Edge::ended, 0, 20, (x, y) -> x.told(0, y, 2), -1);
        EDGE.range("told of what, at the end", Edge::ended, 0, 6, (x, w) -> x.told(0, 20, w), -1);
        DikeHands x = Edge.after(Edge::busy);
        int[] want = {24, 2, 2, 0, 20, 1, 0};
        for (int what = 0; what <= 6; what++) {
            DUE.is("told(0, 1, " + what + ")", x.told(0, 1, what), want[what]);
        }
        x.go(43);
        DUE.is("week 103: told(0, 2, 0)", x.told(0, 2, 0), -1);
        x.go(1);
        DUE.is("week 104: told(0, 2, 0)", x.told(0, 2, 0), 28);
    }

    /** Promise 14: "5 its SUBSTITUTE (NONE)". */
    private static void noneIsTheSubstituteOfMost() {
        DikeHands x = Edge.after(Edge::busy);
        DUE.is("it works for itself: told(1, 1, 5)", x.told(1, 1, 5), -1);
        DUE.is("it buys: told(3, 1, 5)", x.told(3, 1, 5), -1);
        DUE.is("it isn't listed: told(4, 1, 5)", x.told(4, 1, 5), -1);
        DUE.is("a year ahead: told(0, 0, 5)", x.told(0, 0, 5), -1);
        DUE.is("house 0 as one: work(0, 5, 1, 1)", x.work(0, 5, 1, 1), 8);
        DUE.is("house 0 as one: told(1, 1, 5)", x.told(1, 1, 5), 0);
    }

    /** Part 2 bars a second SUBSTITUTE of a HOUSE, not a second HOUSE of a SUBSTITUTE; all its days add up. */
    private static void oneSubstituteForSeveralHouses() {
        DikeHands x = Edge.after(EdgeDaysTest::allOwe);
        DUE.is("work(1, 5, 3, 0)", x.work(1, 5, 3, 0), 25);
        DUE.is("work(1, 5, 2, 0)", x.work(1, 5, 2, 0), 23);
        DUE.is("work(1, 5, 6, 2)", x.work(1, 5, 6, 2), 0);
        DUE.is("work(1, 5, 1, 4)", x.work(1, 5, 1, 4), 27);
        DUE.is("told(1, 2, 6)", x.told(1, 2, 6), 12);
        DUE.is("told(1, 2, 1)", x.told(1, 2, 1), 0);
        DUE.is("told(0, 2, 2)", x.told(0, 2, 2), 5);
        DUE.is("told(2, 2, 5)", x.told(2, 2, 5), 1);
        DUE.is("told(4, 2, 5)", x.told(4, 2, 5), 1);
    }
}
