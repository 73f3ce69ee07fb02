/** The edges of promises 4 to 8: laws, houses, changes, what is listed and what is owed. */
public final class EdgeListsTest {
    private static final Due DUE = new Due();
    private static final Edge EDGE = new Edge(DUE);

    public static void main(String[] args) {
        lawsAreForYears0To19();
        whatALawSays();
        coinsAre0To100();
        fortyLawsCome();
        theLawOfAYear();
        theLawBehindTheLastYear();
        housesOfVillages0To7();
        acresAre0To500();
        handsAre0To20();
        fortyHousesCome();
        changesOfHousesThatCame();
        changesFromItsComingToNow();
        changesOfAcresAndHands();
        twoHundredChangesAreTold();
        changesBehindTheLastWeek();
        listedOfHousesYearsAndWhat();
        toldAheadOfAYearsFirstWeek();
        nobodyIsListedInYear0();
        owedOfHousesAndYears();
        tensOfAcresAreCut();
        exemptWithFewerAcres();
        owedAtTheMost();
        DUE.end();
    }

    /** Promise 4: "there is no such YEAR (0 .. 19)". */
    private static void lawsAreForYears0To19() {
        EDGE.range("law of a year", Edge::busy, 0, 19, (x, y) -> x.law(y, 23000, 9), -1);
        EDGE.taken("law of a year", Edge::busy, (x, y) -> x.law(y, 23000, 9), 5, 19);
        EDGE.range("law of a year, at the end", Edge::ended, 0, 19, (x, y) -> x.law(y, 23000, 9), -1);
    }

    /** Promise 4: "NONE if that can't be": 0 .. 9 days, 0 .. 9 days, 0 .. 500 ACRES. */
    private static void whatALawSays() {
        int[] taken = {0, 500, 1000, 1500, 9000, 9500, 10000, 10500, 19500, 90000, 90500, 99000, 99500};
        for (int what : taken) {
            EDGE.taken("law of what", Edge::busy, (x, w) -> x.law(1, w, 9), 5, what);
            oweByTheLaw(what);
        }
        int[] refused = {
            -1, -500, -501, -1000, -10000, 501, 999, 1501, 1999, 9501, 9999, 10501, 19501, 19999, 90501, 99501, 99999,
            100000, 100500, 109500, Integer.MIN_VALUE, Integer.MAX_VALUE, 1 << 17, 1 << 24, 1 << 30
        };
        EDGE.refused("law of what", Edge::busy, (x, w) -> x.law(1, w, 9), -1, refused);
    }

    // Four houses tell apart the numbers that are packed into one.
    private static void oweByTheLaw(int what) {
        DikeHands x = new DikeHands();
        x.house(0, 500, 0);
        x.house(0, 500, 1);
        x.house(0, 499, 1);
        x.house(0, 0, 1);
        x.go(52);
        x.law(1, what, 0);
        int forTen = what / 10000;
        int forHand = what / 1000 - 10 * forTen;
        boolean exempt = what - 1000 * (what / 1000) == 500;
        DUE.is("law of " + what + ": acres alone", x.owed(0, 1), 50 * forTen);
        DUE.is("law of " + what + ": acres and a hand", x.owed(1, 1), 50 * forTen + forHand);
        DUE.is("law of " + what + ": 499 acres", x.owed(2, 1), exempt ? 0 : 49 * forTen + forHand);
        DUE.is("law of " + what + ": no acres", x.owed(3, 1), exempt ? 0 : forHand);
    }

    /** Promise 4: "coin is 0 .. 100". */
    private static void coinsAre0To100() {
        EDGE.range("law of a coin", Edge::busy, 0, 100, (x, c) -> x.law(1, 21001, c), -1);
        EDGE.taken("law of a coin", Edge::busy, (x, c) -> x.law(1, 21001, c), 5, 0);
        EDGE.taken("law of a coin", Edge::busy, (x, c) -> x.law(1, 21001, c), 5, 100);
        DikeHands x = Edge.after(Edge::busy);
        x.law(1, 21001, 100);
        DUE.is("a day for 100: buy(0, 1)", x.buy(0, 1), 180);
        x.law(1, 21001, 0);
        DUE.is("a day for 0: buy(0, 1)", x.buy(0, 1), 180);
    }

    /** Promise 4: NONE if "40 came". */
    private static void fortyLawsCome() {
        Edge.Past full = x -> {
            Edge.busy(x);
            for (int i = 5; i <= 40; i++) {
                DUE.is("law " + i, x.law(19, 1000, 1), i);
            }
        };
        EDGE.refused("law 41 of a year", full, (x, y) -> x.law(y, 23000, 9), -1, 0, 1, 19, 20, -1);
        DikeHands x = Edge.after(full);
        DUE.is("law 41", x.law(1, 99000, 100), -1);
        DUE.is("count(2)", x.count(2), 40);
        DUE.is("what is owed stays", x.owed(0, 1), 24);
        DUE.is("the coin stays", x.buy(0, 1), 85);
        DikeHands other = Edge.after(Edge::busy);
        for (int i = 0; i < 50; i++) {
            other.law(20, 1000, 1);
        }
        DUE.is("refused ones don't count", other.law(0, 0, 0), 5);
    }

    /** Terms: "the one of the greatest YEAR that isn't above it (of like ones the latest told); 0 of all without one". */
    private static void theLawOfAYear() {
        DikeHands x = new DikeHands();
        x.house(0, 0, 1);
        x.go(104);
        x.go(104);
        DUE.is("without a law", x.owed(0, 4), 0);
        x.law(3, 3000, 7);
        DUE.is("a year ahead of the law", x.owed(0, 2), 0);
        DUE.is("the year of the law", x.owed(0, 3), 3);
        DUE.is("a year behind it", x.owed(0, 4), 3);
        x.law(5, 5000, 8);
        DUE.is("a law of a year to come", x.owed(0, 4), 3);
        x.law(3, 4000, 9);
        DUE.is("of like ones the latest told", x.owed(0, 3), 4);
        x.law(2, 2000, 6);
        DUE.is("one of a lesser year, told later", x.owed(0, 3), 4);
        DUE.is("its own year", x.owed(0, 2), 2);
        DUE.is("the coin goes with it", x.buy(0, 1), 9);
        x.law(0, 1000, 1);
        DUE.is("year 0 is one too", x.owed(0, 1), 1);
        x.go(52);
        DUE.is("as its year begins", x.owed(0, 5), 5);
        DUE.is("the coin too", x.buy(0, 1), 17);
    }

    /** Promises 4 and 8: a law of YEAR 19, the last one, holds for what is behind it too. */
    private static void theLawBehindTheLastYear() {
        DikeHands x = Edge.after(Edge::atTheLastWeek);
        x.law(19, 7000, 4);
        DUE.is("week 1039: owed(0, 19)", x.owed(0, 19), 35);
        DUE.is("week 1039: owed(0, 18)", x.owed(0, 18), 27 + 10);
        DUE.is("week 1039: owed(0, 20)", x.owed(0, 20), -1);
        x.go(1);
        DUE.is("week 1040: owed(0, 20)", x.owed(0, 20), 35);
        DUE.is("week 1040: owed(0, 21)", x.owed(0, 21), -1);
    }

    /** Promise 5: "NONE if there is no such VILLAGE". */
    private static void housesOfVillages0To7() {
        EDGE.range("house of a village", Edge::busy, 0, 7, (x, v) -> x.house(v, 10, 2), -1);
        EDGE.taken("house of a village", Edge::busy, (x, v) -> x.house(v, 10, 2), 5, 0);
        EDGE.taken("house of a village", Edge::busy, (x, v) -> x.house(v, 10, 2), 5, 7);
        EDGE.range("house at the end", Edge::ended, 0, 7, (x, v) -> x.house(v, 10, 2), -1);
    }

    /** Promise 5: "ACRES .. can't be": 0 .. 500. */
    private static void acresAre0To500() {
        EDGE.range("house of acres", Edge::busy, 0, 500, (x, a) -> x.house(3, a, 2), -1);
        EDGE.taken("house of acres", Edge::busy, (x, a) -> x.house(3, a, 2), 5, 0);
        EDGE.taken("house of acres", Edge::busy, (x, a) -> x.house(3, a, 2), 5, 500);
        listedAs(0, 0);
        listedAs(500, 0);
    }

    /** Promise 5: "HANDS can't be": 0 .. 20. */
    private static void handsAre0To20() {
        EDGE.range("house of hands", Edge::busy, 0, 20, (x, h) -> x.house(3, 10, h), -1);
        EDGE.taken("house of hands", Edge::busy, (x, h) -> x.house(3, 10, h), 5, 0);
        EDGE.taken("house of hands", Edge::busy, (x, h) -> x.house(3, 10, h), 5, 20);
        listedAs(0, 20);
        listedAs(500, 20);
    }

    private static void listedAs(int acres, int hands) {
        DikeHands x = new DikeHands();
        x.house(7, acres, hands);
        x.go(52);
        DUE.is("listed with acres", x.listed(0, 1, 0), acres);
        DUE.is("listed with hands", x.listed(0, 1, 1), hands);
    }

    /** Promise 5: NONE if "40 came". */
    private static void fortyHousesCome() {
        Edge.Past full = x -> {
            Edge.busy(x);
            for (int i = 5; i < 40; i++) {
                DUE.is("house " + i, x.house(i % 8, i, 1), i);
            }
        };
        EDGE.refused("house 40 of a village", full, (x, v) -> x.house(v, 10, 2), -1, 0, 3, 7, 8, -1);
        DikeHands x = Edge.after(full);
        DUE.is("house 40", x.house(0, 1, 1), -1);
        DUE.is("count(1)", x.count(1), 40);
        DUE.yes("the last one: change(39, 60, 1, 1)", x.change(39, 60, 1, 1));
        DUE.no("none such: change(40, 60, 1, 1)", x.change(40, 60, 1, 1));
        x.go(44);
        DUE.is("the last one: owed(39, 2)", x.owed(39, 2), 2);
        DUE.is("the last one works: work(39, 0, 2, 39)", x.work(39, 0, 2, 39), 0);
        DUE.is("what is told of it: told(39, 2, 1)", x.told(39, 2, 1), 2);
        DUE.is("none such: owed(40, 2)", x.owed(40, 2), -1);
        DikeHands other = Edge.after(Edge::busy);
        for (int i = 0; i < 50; i++) {
            other.house(8, 1, 1);
        }
        DUE.is("a refused one takes no number", other.house(0, 1, 1), 5);
    }

    /** Promise 6: "false if there is no such HOUSE". */
    private static void changesOfHousesThatCame() {
        EDGE.range("change of a house", Edge::busy, 0, 4, (x, h) -> Edge.bit(x.change(h, 60, 7, 1)), 0);
        EDGE.taken("change of a house", Edge::busy, (x, h) -> Edge.bit(x.change(h, 60, 7, 1)), 1, 0);
        EDGE.taken("change of a house", Edge::busy, (x, h) -> Edge.bit(x.change(h, 60, 7, 1)), 1, 4);
        EDGE.refused("change with no houses", x -> { }, (x, h) -> Edge.bit(x.change(h, 0, 7, 1)), 0, 0, -1, 1);
    }

    /** Promise 6: "the WEEK is above NOW, or ahead of the HOUSE's coming". */
    private static void changesFromItsComingToNow() {
        EDGE.range("change from a week", Edge::busy, 52, 60, (x, w) -> Edge.bit(x.change(4, w, 7, 1)), 0);
        EDGE.taken("change from a week", Edge::busy, (x, w) -> Edge.bit(x.change(4, w, 7, 1)), 1, 52);
        EDGE.taken("change from a week", Edge::busy, (x, w) -> Edge.bit(x.change(4, w, 7, 1)), 1, 60);
        EDGE.range("change from week 0 on", Edge::busy, 0, 60, (x, w) -> Edge.bit(x.change(0, w, 7, 1)), 0);
        DikeHands x = new DikeHands();
        x.house(0, 0, 0);
        DUE.yes("week 0: change(0, 0, 1, 1)", x.change(0, 0, 1, 1));
        DUE.no("week 0: change(0, 1, 1, 1)", x.change(0, 1, 1, 1));
        DUE.no("week 0: change(0, -1, 1, 1)", x.change(0, -1, 1, 1));
    }

    /** Promise 6: "ACRES or HANDS can't be". */
    private static void changesOfAcresAndHands() {
        EDGE.range("change of acres", Edge::busy, 0, 500, (x, a) -> Edge.bit(x.change(0, 60, a, 1)), 0);
        EDGE.range("change of hands", Edge::busy, 0, 20, (x, h) -> Edge.bit(x.change(0, 60, 7, h)), 0);
        int[][] ends = {{0, 0}, {500, 0}, {0, 20}, {500, 20}};
        for (int[] a : ends) {
            DikeHands x = Edge.after(Edge::busy);
            DUE.yes("change(0, 60, " + a[0] + ", " + a[1] + ")", x.change(0, 60, a[0], a[1]));
            x.go(44);
            DUE.is("listed(0, 2, 0)", x.listed(0, 2, 0), a[0]);
            DUE.is("listed(0, 2, 1)", x.listed(0, 2, 1), a[1]);
        }
    }

    /** Promise 6: false if "200 were told"; by all HOUSES together. */
    private static void twoHundredChangesAreTold() {
        DikeHands x = new DikeHands();
        x.law(0, 1000, 1);
        x.house(3, 0, 1);
        x.house(3, 0, 1);
        x.go(51);
        for (int i = 1; i <= 200; i++) {
            DUE.no("a refused one doesn't count", i < 100 && x.change(0, 52, 0, 1));
            DUE.yes("change " + i, x.change(i % 2, 51, i, 2));
            DUE.is("count(3)", i % 50 == 0 ? x.count(3) : i, i);
        }
        String before = Edge.askedAtOnce(x);
        DUE.no("change 201 of house 0", x.change(0, 51, 1, 9));
        DUE.no("change 201 of house 1", x.change(1, 0, 1, 9));
        DUE.same("what is answered after change 201", Edge.askedAtOnce(x), before);
        x.go(1);
        DUE.no("a week later", x.change(0, 52, 1, 9));
        DUE.is("count(3)", x.count(3), 200);
        DUE.is("listed(0, 1, 0)", x.listed(0, 1, 0), 200);
        DUE.is("listed(1, 1, 0)", x.listed(1, 1, 0), 199);
        DUE.is("listed(0, 1, 1)", x.listed(0, 1, 1), 2);
    }

    /** Promise 6 at NOW 1040: only what is above NOW is refused. */
    private static void changesBehindTheLastWeek() {
        EDGE.range("change from a week, at the end", Edge::ended, 52, 1040, (x, w) -> Edge.bit(x.change(4, w, 7, 1)), 0);
        DikeHands x = Edge.after(Edge::ended);
        DUE.is("a house at the end", x.house(5, 10, 8), 5);
        DUE.no("change(5, 1039, 10, 9)", x.change(5, 1039, 10, 9));
        DUE.yes("change(5, 1040, 10, 9)", x.change(5, 1040, 10, 9));
        DUE.no("change(5, 1041, 10, 10)", x.change(5, 1041, 10, 10));
        DUE.is("listed(5, 20, 0)", x.listed(5, 20, 0), -1);
        DUE.is("owed(5, 20)", x.owed(5, 20), 0);
        x.village(5, 30);
        DUE.is("its hands: arrived(5, 10, 0)", x.arrived(5, 10, 0), 9);
    }

    /** Promise 7: "NONE for others, if there is none such, it isn't LISTED, or the YEAR isn't 0 .. that of NOW". */
    private static void listedOfHousesYearsAndWhat() {
        EDGE.range("listed of a house", Edge::busy, 0, 3, (x, h) -> x.listed(h, 1, 0), -1);
        EDGE.range("listed of a year", Edge::busy, 1, 1, (x, y) -> x.listed(0, y, 0), -1);
        EDGE.range("listed of what", Edge::busy, 0, 1, (x, w) -> x.listed(0, 1, w), -1);
        EDGE.range("listed of a year, at the end", Edge::ended, 1, 20, (x, y) -> x.listed(0, y, 0), -1);
        EDGE.range("listed of a house, at the end", Edge::ended, 0, 4, (x, h) -> x.listed(h, 20, 1), -1);
        EDGE.range("listed since its coming", Edge::ended, 2, 20, (x, y) -> x.listed(4, y, 1), -1);
        DikeHands x = Edge.after(Edge::busy);
        DUE.is("listed(0, 1, 0)", x.listed(0, 1, 0), 100);
        DUE.is("listed(0, 1, 1)", x.listed(0, 1, 1), 4);
        DUE.is("listed with 0 acres isn't NONE", x.listed(2, 1, 0), 0);
        x.go(43);
        DUE.is("week 103: listed(0, 2, 0)", x.listed(0, 2, 0), -1);
        x.go(1);
        DUE.is("week 104: listed(0, 2, 0)", x.listed(0, 2, 0), 90);
    }

    /** Terms: "the latest that was told in a WEEK ahead of that one"; a HOUSE that came later isn't LISTED. */
    private static void toldAheadOfAYearsFirstWeek() {
        DikeHands x = new DikeHands();
        x.house(0, 1, 1);
        x.go(51);
        x.house(0, 2, 2);
        DUE.yes("in week 51", x.change(0, 0, 3, 3));
        x.go(1);
        x.house(0, 4, 4);
        DUE.yes("in week 52, true from week 51 on", x.change(0, 51, 5, 5));
        DUE.yes("in week 52, true from week 51 on", x.change(1, 51, 6, 6));
        DUE.is("told in week 51", x.listed(0, 1, 0), 3);
        DUE.is("came in week 51", x.listed(1, 1, 0), 2);
        DUE.is("came in week 52", x.listed(2, 1, 0), -1);
        x.go(52);
        DUE.is("told in week 52", x.listed(0, 2, 0), 5);
        DUE.is("came in week 52", x.listed(2, 2, 0), 4);
        DUE.is("the year ahead stays", x.listed(0, 1, 0), 3);
    }

    /** Terms: nothing can have been told ahead of WEEK 0. */
    private static void nobodyIsListedInYear0() {
        DikeHands x = new DikeHands();
        x.law(0, 99000, 100);
        x.house(0, 500, 20);
        DUE.is("week 0: listed(0, 0, 0)", x.listed(0, 0, 0), -1);
        DUE.is("week 0: owed(0, 0)", x.owed(0, 0), 0);
        x.go(51);
        DUE.is("week 51: listed(0, 0, 1)", x.listed(0, 0, 1), -1);
        DUE.is("week 51: owed(0, 0)", x.owed(0, 0), 0);
        DUE.is("week 51: work(0, 0, 1, 0)", x.work(0, 0, 1, 0), -1);
        DUE.is("week 51: buy(0, 1)", x.buy(0, 1), -1);
        x.go(1);
        DUE.is("week 52: owed(0, 0)", x.owed(0, 0), 0);
        DUE.is("week 52: owed(0, 1)", x.owed(0, 1), 630);
    }

    /** Promise 8: "NONE if there is no such HOUSE or YEAR (0 .. that of NOW)". */
    private static void owedOfHousesAndYears() {
        EDGE.range("owed of a house", Edge::busy, 0, 4, (x, h) -> x.owed(h, 1), -1);
        EDGE.range("owed of a year", Edge::busy, 0, 1, (x, y) -> x.owed(0, y), -1);
        EDGE.range("owed of a year, at the end", Edge::ended, 0, 20, (x, y) -> x.owed(0, y), -1);
        EDGE.refused("owed with no houses", x -> { }, (x, h) -> x.owed(h, 0), -1, 0, -1, 1);
        DikeHands x = Edge.after(Edge::busy);
        x.go(43);
        DUE.is("week 103: owed(0, 2)", x.owed(0, 2), -1);
        x.go(1);
        DUE.is("week 104: owed(0, 2)", x.owed(0, 2), 18 + 10);
    }

    /** Terms: "days for each ten ACRES (cut)". */
    private static void tensOfAcresAreCut() {
        int[][] acresAndTens = {{0, 0}, {9, 0}, {10, 1}, {19, 1}, {20, 2}, {489, 48}, {490, 49}, {499, 49}, {500, 50}};
        for (int[] a : acresAndTens) {
            DikeHands x = new DikeHands();
            x.law(0, 90000, 0);
            x.house(0, a[0], 20);
            x.go(52);
            DUE.is("owed with acres of " + a[0], x.owed(0, 1), 9 * a[1]);
        }
    }

    /** Terms: a HOUSE is EXEMPT "if it has fewer" ACRES; part 2: it owes 0 then. */
    private static void exemptWithFewerAcres() {
        int[] bounds = {1, 2, 10, 499, 500};
        for (int bound : bounds) {
            DikeHands x = new DikeHands();
            x.law(0, 9000 + bound, 0);
            x.house(0, bound - 1, 2);
            x.house(0, bound, 2);
            x.go(52);
            DUE.is("one acre fewer than " + bound, x.owed(0, 1), 0);
            DUE.is("as many acres as " + bound, x.owed(1, 1), 18);
        }
        DikeHands x = new DikeHands();
        x.law(0, 9000, 0);
        x.house(0, 0, 2);
        x.go(52);
        DUE.is("nobody has fewer than 0 acres", x.owed(0, 1), 18);
    }

    private static void owedAtTheMost() {
        DikeHands x = new DikeHands();
        x.law(0, 99500, 0);
        x.house(0, 500, 20);
        x.house(0, 499, 20);
        x.go(52);
        DUE.is("500 acres and 20 hands", x.owed(0, 1), 630);
        DUE.is("exempt with 499 acres", x.owed(1, 1), 0);
    }
}
