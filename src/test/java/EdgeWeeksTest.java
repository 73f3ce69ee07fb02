/** The edges of promises 1, 12, 13 and 22: a new object, the river, the weeks that end, and what is counted. */
public final class EdgeWeeksTest {
    private static final Due DUE = new Due();
    private static final Edge EDGE = new Edge(DUE);

    public static void main(String[] args) {
        aNewObjectHasNothing();
        riverFromNowOn();
        riverUpToTheLastWeek();
        riverOfOneWeek();
        levelsAre0To3000();
        noRiverBehindTheLastWeek();
        bothEndsCount();
        levelsAre0AtFirst();
        goOf0To104Weeks();
        goUpTo1040();
        aYearIs52Weeks();
        aRodLosesLevelBy100();
        aRodBreaksIfTheLevelIsAbove();
        theHeightAheadOfTheLossCounts();
        aBrokenRodBreaksAgain();
        theLossAsItIsNow();
        countOf0To8();
        countsAtTheirMost();
        DUE.end();
    }

    /** Promise 1: "No HOUSES, no LAWS; NOW is 0." */
    private static void aNewObjectHasNothing() {
        DikeHands x = new DikeHands();
        for (int what = 0; what <= 8; what++) {
            DUE.is("count(" + what + ")", x.count(what), 0);
        }
        DUE.is("no house 0: owed(0, 0)", x.owed(0, 0), -1);
        DUE.is("no house 0: told(0, 0, 0)", x.told(0, 0, 0), -1);
        DUE.is("no house 0: listed(0, 0, 0)", x.listed(0, 0, 0), -1);
        DUE.is("the first law: law(0, 0, 0)", x.law(0, 0, 0), 1);
        DUE.is("the first house: house(0, 0, 0)", x.house(0, 0, 0), 0);
        DUE.no("week 1 is above NOW: change(0, 1, 0, 0)", x.change(0, 1, 0, 0));
        DUE.is("year 1 is above NOW's: owed(0, 1)", x.owed(0, 1), -1);
        DUE.is("no week ends: go(0)", x.go(0), 0);
    }

    /** Promise 12: false if "from is below NOW". */
    private static void riverFromNowOn() {
        EDGE.range("river from", Edge::busy, 60, 1039, (x, w) -> Edge.bit(x.river(w, 1039, 2000)), 0);
        EDGE.range("river from, up to a week", Edge::busy, 60, 200, (x, w) -> Edge.bit(x.river(w, 200, 2000)), 0);
        EDGE.taken("river from", Edge::busy, (x, w) -> Edge.bit(x.river(w, w, 2000)), 1, 60);
        EDGE.taken("river from", Edge::busy, (x, w) -> Edge.bit(x.river(w, w, 3000)), 1, 1039);
        EDGE.refused("river from", Edge::busy, (x, w) -> Edge.bit(x.river(w, w, 3000)), 0, -1, 0, 59, 1040, 1041);
        EDGE.range("river from week 0", x -> { }, 0, 1039, (x, w) -> Edge.bit(x.river(w, 1039, 2000)), 0);
    }

    /** Promise 12: false if "to is below from or above 1039". */
    private static void riverUpToTheLastWeek() {
        EDGE.range("river to", Edge::busy, 100, 1039, (x, w) -> Edge.bit(x.river(100, w, 2000)), 0);
        EDGE.taken("river to", Edge::busy, (x, w) -> Edge.bit(x.river(100, w, 2000)), 1, 100);
        EDGE.taken("river to", Edge::busy, (x, w) -> Edge.bit(x.river(100, w, 2000)), 1, 1039);
        EDGE.range("river to, in the last week", Edge::atTheLastWeek, 1039, 1039,
            (x, w) -> Edge.bit(x.river(1039, w, 2000)), 0);
    }

    private static void riverOfOneWeek() {
        DikeHands x = new DikeHands();
        DUE.yes("river(7, 7, 700)", x.river(7, 7, 700));
        DUE.no("river(7, 6, 800)", x.river(7, 6, 800));
        DUE.is("go(7)", x.go(7), 7);
        DUE.is("the week ahead", x.bank(0, 0, 0), 1000);
        DUE.is("go(1)", x.go(1), 8);
        DUE.is("its own", x.bank(0, 0, 0), 993);
        DUE.is("go(1)", x.go(1), 9);
        DUE.is("the week behind", x.bank(0, 0, 0), 993);
    }

    /** Promise 12: "false if they can't be"; a LEVEL is 0 .. 3000. */
    private static void levelsAre0To3000() {
        EDGE.range("river of a level", Edge::busy, 0, 3000, (x, l) -> Edge.bit(x.river(60, 80, l)), 0);
        EDGE.taken("river of a level", Edge::busy, (x, l) -> Edge.bit(x.river(60, 80, l)), 1, 0);
        EDGE.taken("river of a level", Edge::busy, (x, l) -> Edge.bit(x.river(60, 80, l)), 1, 3000);
    }

    /** Promise 12 at NOW 1040: each WEEK is below NOW or above 1039. */
    private static void noRiverBehindTheLastWeek() {
        EDGE.refused("river from, at the end", Edge::ended, (x, w) -> Edge.bit(x.river(w, 1039, 2000)), 0, 0, 1039, 1040);
        EDGE.refused("river to, at the end", Edge::ended, (x, w) -> Edge.bit(x.river(1040, w, 2000)), 0, 1039, 1040, 1041);
    }

    /** Promise 12: "the WEEKS from .. to (both counted)"; the LEVEL that was told last counts. */
    private static void bothEndsCount() {
        DikeHands x = new DikeHands();
        DUE.yes("river(2, 4, 900)", x.river(2, 4, 900));
        DUE.yes("river(4, 5, 100)", x.river(4, 5, 100));
        int[] heights = {1000, 1000, 991, 982, 981, 980, 980};
        for (int week = 0; week < heights.length; week++) {
            x.go(1);
            DUE.is("the height after week " + week, x.bank(9, 0, 0), heights[week]);
        }
        DikeHands all = new DikeHands();
        DUE.yes("river(0, 1039, 100)", all.river(0, 1039, 100));
        for (int i = 1; i <= 8; i++) {
            all.go(104);
            DUE.is("the height in week " + all.count(0), all.bank(29, 0, 0), 1000 - 104 * i);
        }
        all.go(69);
        DUE.is("week 901: a height of 100 was level with the water", all.bank(29, 0, 0), 99);
        all.go(104);
        all.go(35);
        DUE.is("week 1040: it broke in each week from 901 on", all.bank(29, 1, 0), 139);
    }

    /** Part 3: a LEVEL is "0 at first". */
    private static void levelsAre0AtFirst() {
        DikeHands x = new DikeHands();
        for (int i = 0; i < 10; i++) {
            x.go(104);
        }
        for (int r = 0; r < 30; r++) {
            DUE.is("bank(" + r + ", 0, 0)", x.bank(r, 0, 0), 1000);
            DUE.is("bank(" + r + ", 1, 0)", x.bank(r, 1, 0), 0);
        }
    }

    /** Promise 13: "n WEEKS end (0 .. 104 ..); NONE for another n". */
    private static void goOf0To104Weeks() {
        EDGE.range("go of n weeks", Edge::busy, 0, 104, (x, n) -> x.go(n), -1);
        EDGE.taken("go of n weeks", Edge::busy, (x, n) -> x.go(n), 61, 1);
        EDGE.taken("go of n weeks", Edge::busy, (x, n) -> x.go(n), 164, 104);
        EDGE.changesNothing("go of no week", Edge::busy, (x, n) -> x.go(n), 60, 0);
        EDGE.range("go of n weeks, at the end", Edge::ended, 0, 104, (x, n) -> x.go(n), -1);
        EDGE.changesNothing("go of n weeks, at the end", Edge::ended, (x, n) -> x.go(n), 1040, 0, 1, 2, 103, 104);
    }

    /** Promise 13: "up to 1040". */
    private static void goUpTo1040() {
        int[][] nowAndN = {{1039, 0}, {1039, 1}, {1039, 2}, {1039, 104}, {936, 103}, {936, 104}, {937, 103}, {937, 104}};
        for (int[] a : nowAndN) {
            DikeHands x = new DikeHands();
            for (int i = 0; i < 9; i++) {
                x.go(104);
            }
            x.go(a[0] - 936);
            x.river(1039, 1039, 500);
            DUE.is("from " + a[0] + ": go(" + a[1] + ")", x.go(a[1]), Math.min(1040, a[0] + a[1]));
            DUE.is("the last week's level", x.bank(0, 0, 0), a[0] + a[1] >= 1040 ? 995 : 1000);
            x.go(104);
            DUE.is("count(0)", x.count(0), 1040);
            DUE.is("it ends once", x.bank(0, 0, 0), 995);
        }
    }

    /** Terms: "the YEAR is the WEEK by 52 (cut)". */
    private static void aYearIs52Weeks() {
        DikeHands x = new DikeHands();
        x.house(0, 0, 0);
        for (int year = 1; year <= 20; year++) {
            x.go(51);
            DUE.is("week " + x.count(0) + ": owed(0, " + year + ")", x.owed(0, year), -1);
            DUE.is("week " + x.count(0) + ": owed(0, " + (year - 1) + ")", x.owed(0, year - 1), 0);
            x.go(1);
            DUE.is("week " + x.count(0) + ": owed(0, " + year + ")", x.owed(0, year), 0);
        }
        DUE.is("count(0)", x.count(0), 1040);
    }

    /** Part 3: "each ROD loses LEVEL by 100 (cut)". */
    private static void aRodLosesLevelBy100() {
        int[][] levelAndLoss = {{0, 0}, {1, 0}, {99, 0}, {100, 1}, {199, 1}, {200, 2}, {899, 8}, {900, 9}, {999, 9}, {1000, 10}};
        for (int[] a : levelAndLoss) {
            DikeHands x = new DikeHands();
            x.river(0, 0, a[0]);
            x.go(1);
            for (int r = 0; r < 30; r++) {
                DUE.is("a level of " + a[0] + ": rod " + r, x.bank(r, 0, 0), 1000 - a[1]);
            }
        }
    }

    /** Part 3: "if the LEVEL is above its HEIGHT .., it BREAKS". */
    private static void aRodBreaksIfTheLevelIsAbove() {
        int[][] levelAndBreaks = {{999, 0}, {1000, 0}, {1001, 1}, {3000, 1}};
        for (int[] a : levelAndBreaks) {
            DikeHands x = new DikeHands();
            x.rod(8, 2, 10000);
            x.rod(29, 0, 1);
            x.river(0, 0, a[0]);
            x.go(1);
            for (int r = 0; r < 30; r++) {
                DUE.is("a level of " + a[0] + ": breaks of rod " + r, x.bank(r, 1, 0), a[1]);
                DUE.is("a level of " + a[0] + ": height of rod " + r, x.bank(r, 0, 0), a[1] == 1 ? 0 : 1000 - a[0] / 100);
            }
            DUE.is("a level of " + a[0] + ": count(5)", x.count(5), 10001 * a[1]);
        }
    }

    /** Part 3: its HEIGHT "(ahead of that)", before the week's own loss. */
    private static void theHeightAheadOfTheLossCounts() {
        DikeHands x = new DikeHands();
        x.river(0, 0, 1000);
        x.river(1, 1, 990);
        x.river(2, 2, 982);
        x.go(1);
        DUE.is("level with the water", x.bank(0, 0, 0), 990);
        x.go(1);
        DUE.is("level with the water again", x.bank(0, 0, 0), 981);
        DUE.is("no break", x.bank(0, 1, 0), 0);
        x.go(1);
        DUE.is("one above", x.bank(0, 0, 0), 0);
        DUE.is("a break", x.bank(0, 1, 0), 1);
    }

    /** Part 3: a HEIGHT of 0 is below each LEVEL but 0. */
    private static void aBrokenRodBreaksAgain() {
        DikeHands x = new DikeHands();
        x.rod(1, 0, 7);
        x.river(0, 0, 3000);
        x.river(1, 1, 1);
        x.river(2, 2, 0);
        x.river(3, 3, 3000);
        int[] breaks = {1, 2, 2, 3, 3};
        for (int week = 0; week < breaks.length; week++) {
            x.go(1);
            DUE.is("breaks after week " + week, x.bank(1, 1, 0), breaks[week]);
            DUE.is("its height after week " + week, x.bank(1, 0, 0), 0);
            DUE.is("count(5) after week " + week, x.count(5), 7 * breaks[week]);
        }
    }

    private static void theLossAsItIsNow() {
        DikeHands x = new DikeHands();
        x.river(0, 1, 3000);
        x.rod(0, 0, 10000);
        x.go(1);
        x.rod(0, 0, 1);
        x.go(1);
        DUE.is("count(5)", x.count(5), 10001);
    }

    /** Promise 22: 0 to 8, "NONE for others". */
    private static void countOf0To8() {
        EDGE.range("count of what", Edge::busy, 0, 8, (x, w) -> x.count(w), -1);
        EDGE.range("count of what, at first", x -> { }, 0, 8, (x, w) -> x.count(w), -1);
        EDGE.range("count of what, at the end", Edge::ended, 0, 8, (x, w) -> x.count(w), -1);
        DikeHands x = Edge.after(Edge::busy);
        int[] want = {60, 5, 4, 1, 80, 0, 7, 21, 5};
        for (int what = 0; what <= 8; what++) {
            DUE.is("count(" + what + ")", x.count(what), want[what]);
        }
    }

    /** The longest high water: 30 rods lose 10000 each in each of 1040 weeks. */
    private static void countsAtTheirMost() {
        DikeHands x = new DikeHands();
        for (int r = 0; r < 30; r++) {
            x.rod(r, 0, 10000);
        }
        x.river(0, 1039, 3000);
        for (int i = 0; i < 10; i++) {
            x.go(104);
        }
        DUE.is("count(5)", x.count(5), 312000000);
        DUE.is("bank(29, 1, 0)", x.bank(29, 1, 0), 1040);
    }
}
