/** The edges of promises 2, 3, 20 and 21: villages, rods, and the hours of a call. */
public final class EdgePlacesTest {
    private static final Due DUE = new Due();
    private static final Edge EDGE = new Edge(DUE);

    public static void main(String[] args) {
        villagesAre0To7();
        milesAre0To99();
        milesAre0AtFirst();
        rodsAre0To29();
        soilsAre0To2();
        lossesAre0To10000();
        rodsAtFirst();
        aRodIsAtThreeTimesItsNumber();
        calledOfVillages0To7();
        aRidersHourThatIsBegunIsAWholeOne();
        arrivedOfVillagesRodsAndHours();
        aWalkersHourThatIsBegunIsAWholeOne();
        theLongestWayEndsInHour50();
        theHandsOfTheWeekNow();
        noHandsAtAll();
        DUE.end();
    }

    /** Promise 2: "false if there is none such". */
    private static void villagesAre0To7() {
        EDGE.range("village of a village", Edge::busy, 0, 7, (x, v) -> Edge.bit(x.village(v, 50)), 0);
        EDGE.taken("village of a village", Edge::busy, (x, v) -> Edge.bit(x.village(v, 50)), 1, 7);
        EDGE.range("village at the end", Edge::ended, 0, 7, (x, v) -> Edge.bit(x.village(v, 50)), 0);
    }

    /** Promise 2: "false if .. it can't be"; a MILE is 0 .. 99. */
    private static void milesAre0To99() {
        EDGE.range("village of a mile", Edge::busy, 0, 99, (x, m) -> Edge.bit(x.village(3, m)), 0);
        EDGE.taken("village of a mile", Edge::busy, (x, m) -> Edge.bit(x.village(3, m)), 1, 0);
        EDGE.taken("village of a mile", Edge::busy, (x, m) -> Edge.bit(x.village(3, m)), 1, 99);
        DikeHands x = new DikeHands();
        DUE.yes("village(7, 99)", x.village(7, 99));
        DUE.is("called(0, 7) from mile 0 to 99", x.called(0, 7), 17);
        DUE.yes("village(0, 93)", x.village(0, 93));
        DUE.is("called(0, 7) from mile 93 to 99", x.called(0, 7), 1);
        DUE.yes("village(0, 92)", x.village(0, 92));
        DUE.is("called(0, 7) from mile 92 to 99", x.called(0, 7), 2);
        DUE.yes("village(7, 0)", x.village(7, 0));
        DUE.yes("village(0, 6)", x.village(0, 6));
        DUE.is("called(0, 7) from mile 6 to 0", x.called(0, 7), 1);
        DUE.yes("the same mile again: village(0, 6)", x.village(0, 6));
    }

    /** Terms: a MILE is "0 at first". */
    private static void milesAre0AtFirst() {
        DikeHands x = new DikeHands();
        x.village(0, 6);
        for (int v = 1; v < 8; v++) {
            DUE.is("6 miles to village " + v, x.called(0, v), 1);
        }
        x.village(0, 7);
        for (int v = 1; v < 8; v++) {
            DUE.is("7 miles to village " + v, x.called(0, v), 2);
        }
    }

    /** Promise 3: "false if there is none such". */
    private static void rodsAre0To29() {
        EDGE.range("rod of a rod", Edge::busy, 0, 29, (x, r) -> Edge.bit(x.rod(r, 1, 5)), 0);
        EDGE.taken("rod of a rod", Edge::busy, (x, r) -> Edge.bit(x.rod(r, 1, 5)), 1, 0);
        EDGE.taken("rod of a rod", Edge::busy, (x, r) -> Edge.bit(x.rod(r, 1, 5)), 1, 29);
    }

    /** Promise 3: "false if .. they can't be"; a SOIL is 0, 1 or 2. */
    private static void soilsAre0To2() {
        EDGE.range("rod of a soil", Edge::busy, 0, 2, (x, s) -> Edge.bit(x.rod(2, s, 5)), 0);
        EDGE.taken("rod of a soil", Edge::busy, (x, s) -> Edge.bit(x.rod(2, s, 70)), 1, 0);
        EDGE.taken("rod of a soil", Edge::busy, (x, s) -> Edge.bit(x.rod(2, s, 70)), 1, 2);
        int[] daysFor60 = {2, 3, 6};
        for (int soil = 0; soil <= 2; soil++) {
            DikeHands x = new DikeHands();
            x.rod(29, soil, 0);
            DUE.is("60 on soil " + soil, x.bank(29, 3, 1060), daysFor60[soil]);
        }
    }

    /** Promise 3: "false if .. they can't be"; a LOSS is 0 .. 10000. */
    private static void lossesAre0To10000() {
        EDGE.range("rod of a loss", Edge::busy, 0, 10000, (x, l) -> Edge.bit(x.rod(2, 0, l)), 0);
        EDGE.taken("rod of a loss", Edge::busy, (x, l) -> Edge.bit(x.rod(2, 1, l)), 1, 0);
        EDGE.taken("rod of a loss", Edge::busy, (x, l) -> Edge.bit(x.rod(2, 1, l)), 1, 10000);
        DikeHands x = new DikeHands();
        x.rod(4, 0, 10000);
        x.rod(5, 0, 10000);
        x.rod(5, 0, 0);
        DUE.is("saved(300, 1001)", x.saved(300, 1001), 10000);
        x.river(0, 0, 1001);
        x.go(1);
        DUE.is("count(5)", x.count(5), 10000);
    }

    /** Terms: a HEIGHT of 1000, a SOIL of 0 and a LOSS of 0 at first. */
    private static void rodsAtFirst() {
        DikeHands x = new DikeHands();
        for (int r = 0; r < 30; r++) {
            DUE.is("bank(" + r + ", 0, 0)", x.bank(r, 0, 0), 1000);
            DUE.is("bank(" + r + ", 3, 1030)", x.bank(r, 3, 1030), 1);
            DUE.is("bank(" + r + ", 3, 1031)", x.bank(r, 3, 1031), 2);
        }
        DUE.is("saved(300, 1001)", x.saved(300, 1001), 0);
        x.river(0, 0, 1001);
        x.go(1);
        DUE.is("count(5)", x.count(5), 0);
    }

    /** Terms: "rod k at MILE 3 k". */
    private static void aRodIsAtThreeTimesItsNumber() {
        DikeHands x = new DikeHands();
        x.house(2, 0, 1);
        for (int r = 0; r < 30; r++) {
            x.village(2, 3 * r);
            DUE.is("at rod " + r, x.arrived(2, r, 0), 1);
            x.village(2, 3 * r + 1);
            DUE.is("a mile behind rod " + r, x.arrived(2, r, 0), 0);
        }
    }

    /** Promise 20: "NONE if there is none such", on either side. */
    private static void calledOfVillages0To7() {
        EDGE.range("called from", Edge::busy, 0, 7, (x, v) -> x.called(v, 3), -1);
        EDGE.range("called of", Edge::busy, 0, 7, (x, v) -> x.called(4, v), -1);
        EDGE.range("called from, at the end", Edge::ended, 0, 7, (x, v) -> x.called(v, 3), -1);
        DikeHands x = new DikeHands();
        DUE.is("none such on both sides: called(8, 8)", x.called(8, 8), -1);
        DUE.is("none such on both sides: called(-1, -1)", x.called(-1, -1), -1);
        for (int v = 0; v < 8; v++) {
            x.village(v, 99 - v);
            DUE.is("itself: called(" + v + ", " + v + ")", x.called(v, v), 0);
        }
    }

    /** Part 5: "a rider does 6 MILES an hour each way, an hour that is begun is a whole one". */
    private static void aRidersHourThatIsBegunIsAWholeOne() {
        DikeHands x = new DikeHands();
        x.village(5, 40);
        for (int hours = 1; hours <= 6; hours++) {
            int[] miles = {40 + 6 * hours, 40 - 6 * hours};
            for (int mile : miles) {
                x.village(2, mile);
                DUE.is("called(5, 2) at " + mile, x.called(5, 2), hours);
                DUE.is("called(2, 5) at " + mile, x.called(2, 5), hours);
                x.village(2, mile + Integer.signum(mile - 40));
                DUE.is("called(5, 2) a mile farther than " + mile, x.called(5, 2), hours + 1);
                DUE.is("called(2, 5) a mile farther than " + mile, x.called(2, 5), hours + 1);
            }
        }
        x.village(2, 41);
        DUE.is("a mile: called(5, 2)", x.called(5, 2), 1);
        x.village(2, 40);
        DUE.is("no mile: called(5, 2)", x.called(5, 2), 0);
    }

    /** Promise 21: "by an hour (0 .. 100) .. NONE if there is none such". */
    private static void arrivedOfVillagesRodsAndHours() {
        EDGE.range("arrived from", Edge::busy, 0, 7, (x, v) -> x.arrived(v, 10, 50), -1);
        EDGE.range("arrived at a rod", Edge::busy, 0, 29, (x, r) -> x.arrived(3, r, 50), -1);
        EDGE.range("arrived by an hour", Edge::busy, 0, 100, (x, h) -> x.arrived(3, 10, h), -1);
        EDGE.range("arrived by an hour, at the end", Edge::ended, 0, 100, (x, h) -> x.arrived(3, 10, h), -1);
        DikeHands x = Edge.after(Edge::busy);
        DUE.is("arrived(3, 10, 0)", x.arrived(3, 10, 0), 0);
        DUE.is("arrived(3, 10, 100)", x.arrived(3, 10, 100), 5 + 2 + 3 + 6 + 9);
    }

    /** Part 5: they "walk 3 MILES an hour to a ROD, likewise". */
    private static void aWalkersHourThatIsBegunIsAWholeOne() {
        int[][] mileAndHours = {{30, 0}, {31, 1}, {33, 1}, {34, 2}, {36, 2}, {37, 3}, {29, 1}, {27, 1}, {26, 2}, {24, 2}, {23, 3}};
        for (int[] a : mileAndHours) {
            DikeHands x = new DikeHands();
            x.house(6, 0, 13);
            x.village(6, a[0]);
            DUE.is("from mile " + a[0] + ": arrived(6, 10, " + a[1] + ")", x.arrived(6, 10, a[1]), 13);
            DUE.is("from mile " + a[0] + " an hour ahead", x.arrived(6, 10, a[1] - 1), a[1] == 0 ? -1 : 0);
        }
    }

    /** Part 5: a VILLAGE that is called in hour h sets out in it; the rider's and the walkers' hours add up. */
    private static void theLongestWayEndsInHour50() {
        DikeHands x = new DikeHands();
        x.house(7, 0, 20);
        x.house(0, 0, 1);
        x.village(7, 99);
        DUE.is("17 and 33 hours: arrived(0, 0, 49)", x.arrived(0, 0, 49), 1);
        DUE.is("17 and 33 hours: arrived(0, 0, 50)", x.arrived(0, 0, 50), 21);
        DUE.is("17 and 4 hours: arrived(0, 29, 20)", x.arrived(0, 29, 20), 0);
        DUE.is("17 and 4 hours: arrived(0, 29, 21)", x.arrived(0, 29, 21), 20);
        DUE.is("29 hours: arrived(0, 29, 28)", x.arrived(0, 29, 28), 20);
        DUE.is("29 hours: arrived(0, 29, 29)", x.arrived(0, 29, 29), 21);
        DUE.is("arrived(0, 0, 100)", x.arrived(0, 0, 100), 21);
    }

    /** Part 5: "HANDS of a VILLAGE (TRUE in the WEEK NOW)". */
    private static void theHandsOfTheWeekNow() {
        DikeHands x = new DikeHands();
        x.house(0, 0, 2);
        DUE.is("in the week of its coming", x.arrived(0, 0, 0), 2);
        x.go(1);
        DUE.yes("change(0, 1, 0, 20)", x.change(0, 1, 0, 20));
        DUE.is("from the week NOW on", x.arrived(0, 0, 0), 20);
        DUE.yes("change(0, 0, 0, 4)", x.change(0, 0, 0, 4));
        DUE.is("one true from an earlier week", x.arrived(0, 0, 0), 20);
        DUE.yes("change(0, 1, 0, 0)", x.change(0, 1, 0, 0));
        DUE.is("of like weeks the latest told", x.arrived(0, 0, 0), 0);
        x.house(0, 500, 1);
        DUE.is("a house that came now", x.arrived(0, 0, 0), 1);
    }

    private static void noHandsAtAll() {
        DikeHands x = new DikeHands();
        DUE.is("no houses: arrived(0, 0, 100)", x.arrived(0, 0, 100), 0);
        for (int i = 0; i < 40; i++) {
            x.house(i % 8, 0, 20);
        }
        DUE.is("40 houses of 20 hands: arrived(0, 0, 0)", x.arrived(0, 0, 0), 800);
    }
}
