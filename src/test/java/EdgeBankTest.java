/** The edges of promises 17, 18 and 19: the bank, and plans ahead of a high water. */
public final class EdgeBankTest {
    private static final Due DUE = new Due();
    private static final Edge EDGE = new Edge(DUE);

    public static void main(String[] args) {
        bankOfRodsAndWhat();
        bankOfALevel();
        theLevelIsNotAskedOfOthers();
        heightsEndAt3000();
        aRodIsRaisedByItsSoil();
        needsOfARodBelowTheLevel();
        needsOf300DaysAtMost();
        plansOf0To300Days();
        plansOfALevel();
        onlyRodsBelowTheLevel();
        needsNotAboveTheDays();
        anEmptyHeap();
        theLeastOfLikeHeaps();
        noRodWithoutLossIsChosen();
        theWholeBank();
        DUE.end();
    }

    /** Promise 17: "NONE for others, or if there is none such". */
    private static void bankOfRodsAndWhat() {
        for (int what = 0; what <= 3; what++) {
            int asked = what;
            EDGE.range("bank of a rod, " + what, Edge::busy, 0, 29, (x, r) -> x.bank(r, asked, 0), -1);
        }
        EDGE.range("bank of what", Edge::busy, 0, 3, (x, w) -> x.bank(2, w, 0), -1);
        EDGE.range("bank of what, at the end", Edge::ended, 0, 3, (x, w) -> x.bank(2, w, 0), -1);
        DikeHands x = Edge.after(Edge::busy);
        int[] want = {1064, 0, 4, 22};
        for (int what = 0; what <= 3; what++) {
            DUE.is("bank(2, " + what + ", 1500)", x.bank(2, what, 1500), want[what]);
        }
    }

    /** Promise 17: "a LEVEL (0 .. 3000 ..)". */
    private static void bankOfALevel() {
        EDGE.range("bank of a level", Edge::busy, 0, 3000, (x, l) -> x.bank(2, 3, l), -1);
        EDGE.range("bank of a level, at the end", Edge::ended, 0, 3000, (x, l) -> x.bank(29, 3, l), -1);
    }

    /** Promise 17: "of others: that isn't asked". */
    private static void theLevelIsNotAskedOfOthers() {
        int[] levels = {-1, 0, 3000, 3001, Integer.MIN_VALUE, Integer.MAX_VALUE};
        DikeHands x = Edge.after(Edge::busy);
        for (int level : levels) {
            DUE.is("bank(2, 0, " + level + ")", x.bank(2, 0, level), 1064);
            DUE.is("bank(2, 1, " + level + ")", x.bank(2, 1, level), 0);
            DUE.is("bank(2, 2, " + level + ")", x.bank(2, 2, level), 4);
            DUE.is("bank(2, 4, " + level + ")", x.bank(2, 4, level), -1);
            DUE.is("bank(2, -1, " + level + ")", x.bank(2, -1, level), -1);
            DUE.is("bank(30, 0, " + level + ")", x.bank(30, 0, level), -1);
        }
    }

    /** Part 2: "3000 at most (what is above is for nothing)". */
    private static void heightsEndAt3000() {
        int[][] soilDaysHeight = {
            {0, 66, 2980}, {0, 67, 3000}, {0, 68, 3000}, {1, 99, 2980}, {1, 100, 3000}, {1, 101, 3000},
            {2, 199, 2990}, {2, 200, 3000}, {2, 201, 3000}, {0, 450, 3000}
        };
        for (int[] a : soilDaysHeight) {
            DikeHands x = withDays();
            x.rod(11, a[0], 0);
            x.work(0, 11, a[1], 0);
            DUE.is(a[1] + " days on soil " + a[0] + ": height", x.bank(11, 0, 0), a[2]);
            DUE.is(a[1] + " days on soil " + a[0] + ": days", x.bank(11, 2, 0), a[1]);
            x.buy(1, 450);
            x.hire(11, 200);
            DUE.is("200 hired ones more: height", x.bank(11, 0, 0), 3000);
            DUE.is("200 hired ones more: days", x.bank(11, 2, 0), a[1] + 200);
            x.river(52, 52, 3000);
            x.go(1);
            DUE.is("the highest water takes 30", x.bank(11, 0, 0), 2970);
            DUE.is("what was above is not there", x.bank(11, 3, 3000), a[0] == 0 ? 1 : a[0] == 1 ? 2 : 3);
        }
    }

    /** Week 52: two houses that owe 450 days each; a day costs a coin. */
    private static DikeHands withDays() {
        DikeHands x = new DikeHands();
        x.law(0, 90000, 1);
        x.house(0, 500, 20);
        x.house(0, 500, 20);
        x.go(52);
        return x;
    }

    /** Part 2: "30, 20, 10 by its SOIL", by days that are done and by hired ones. */
    private static void aRodIsRaisedByItsSoil() {
        DikeHands x = withDays();
        x.buy(1, 10);
        for (int soil = 0; soil <= 2; soil++) {
            x.rod(soil, soil, 0);
            x.work(0, soil, 1, 0);
            DUE.is("a day done on soil " + soil, x.bank(soil, 0, 0), 1030 - 10 * soil);
            x.hire(soil, 1);
            DUE.is("a day hired on soil " + soil, x.bank(soil, 0, 0), 1060 - 20 * soil);
            DUE.is("days on soil " + soil, x.bank(soil, 2, 0), 2);
        }
        DUE.is("no other rod", x.bank(3, 0, 0), 1000);
    }

    /** Part 4: "as many days as bring it to l, if it is below l". */
    private static void needsOfARodBelowTheLevel() {
        DikeHands x = new DikeHands();
        for (int soil = 0; soil <= 2; soil++) {
            int day = 30 - 10 * soil;
            x.rod(soil, soil, 0);
            DUE.is("far below it", x.bank(soil, 3, 0), 0);
            DUE.is("one below it", x.bank(soil, 3, 999), 0);
            DUE.is("level with it", x.bank(soil, 3, 1000), 0);
            DUE.is("one above it", x.bank(soil, 3, 1001), 1);
            DUE.is("a day above it", x.bank(soil, 3, 1000 + day), 1);
            DUE.is("a day and one above it", x.bank(soil, 3, 1001 + day), 2);
            DUE.is("nine days above it", x.bank(soil, 3, 1000 + 9 * day), 9);
            DUE.is("nine days and one above it", x.bank(soil, 3, 1001 + 9 * day), 10);
        }
    }

    /** Part 4: "more than 300 can't be": 3000 from 0 on sand. */
    private static void needsOf300DaysAtMost() {
        DikeHands x = new DikeHands();
        x.rod(1, 1, 4);
        x.rod(2, 2, 9);
        x.river(0, 0, 3000);
        x.go(1);
        DUE.is("clay", x.bank(0, 3, 3000), 100);
        DUE.is("loam", x.bank(1, 3, 3000), 150);
        DUE.is("sand", x.bank(2, 3, 3000), 300);
        DUE.is("sand to 2991", x.bank(2, 3, 2991), 300);
        DUE.is("sand to 2990", x.bank(2, 3, 2990), 299);
        plan(x, 300, 3000, 9, 4);
        plan(x, 299, 3000, 4, 2);
        plan(x, 300, 2990, 9, 4);
        plan(x, 299, 2990, 9, 4);
        plan(x, 298, 2990, 4, 2);
        plan(x, 150, 3000, 4, 2);
        plan(x, 149, 3000, 0, 0);
    }

    private static void plan(DikeHands x, int n, int l, int saved, int chosen) {
        DUE.is("saved(" + n + ", " + l + ")", x.saved(n, l), saved);
        DUE.is("chosen(" + n + ", " + l + ")", x.chosen(n, l), chosen);
    }

    /** Promises 18 and 19: "NONE if n .. can't be": 0 .. 300. */
    private static void plansOf0To300Days() {
        EDGE.range("saved of n", Edge::busy, 0, 300, (x, n) -> x.saved(n, 1500), -1);
        EDGE.range("chosen of n", Edge::busy, 0, 300, (x, n) -> x.chosen(n, 1500), -1);
        EDGE.range("saved of n, at the end", Edge::ended, 0, 300, (x, n) -> x.saved(n, 1500), -1);
        EDGE.range("chosen of n, at the end", Edge::ended, 0, 300, (x, n) -> x.chosen(n, 1500), -1);
    }

    /** Promises 18 and 19: "NONE if .. l (0 .. 3000) can't be". */
    private static void plansOfALevel() {
        EDGE.range("saved of l", Edge::busy, 0, 3000, (x, l) -> x.saved(70, l), -1);
        EDGE.range("chosen of l", Edge::busy, 0, 3000, (x, l) -> x.chosen(70, l), -1);
        EDGE.range("saved of l, with no day", Edge::busy, 0, 3000, (x, l) -> x.saved(0, l), -1);
        EDGE.range("chosen of l, with all days", Edge::busy, 0, 3000, (x, l) -> x.chosen(300, l), -1);
    }

    /** Part 4: "heaps of RODS that are below l". */
    private static void onlyRodsBelowTheLevel() {
        DikeHands x = withDays();
        x.rod(0, 0, 5);
        x.rod(1, 2, 7);
        x.work(0, 1, 1, 0);
        plan(x, 300, 0, 0, 0);
        plan(x, 300, 999, 0, 0);
        plan(x, 300, 1000, 0, 0);
        plan(x, 300, 1001, 5, 1);
        plan(x, 300, 1010, 5, 1);
        plan(x, 300, 1011, 12, 3);
        plan(x, 1, 1011, 7, 2);
        plan(x, 2, 1011, 12, 3);
    }

    /** Part 4: "whose NEEDS together aren't above n". */
    private static void needsNotAboveTheDays() {
        DikeHands x = new DikeHands();
        x.rod(0, 0, 10);
        x.rod(7, 1, 10);
        x.rod(29, 2, 10);
        // To 1060 they need 2, 3 and 6 days.
        int[][] daysSavedChosen = {
            {0, 0, 0}, {1, 0, 0}, {2, 10, 1}, {4, 10, 1}, {5, 20, 1 | 1 << 7}, {10, 20, 1 | 1 << 7},
            {11, 30, 1 | 1 << 7 | 1 << 29}, {12, 30, 1 | 1 << 7 | 1 << 29}, {300, 30, 1 | 1 << 7 | 1 << 29}
        };
        for (int[] a : daysSavedChosen) {
            plan(x, a[0], 1060, a[1], a[2]);
        }
    }

    /** Part 4: the empty heap is one too, and needs no day. */
    private static void anEmptyHeap() {
        DikeHands x = new DikeHands();
        plan(x, 0, 0, 0, 0);
        plan(x, 0, 3000, 0, 0);
        plan(x, 300, 0, 0, 0);
        plan(x, 300, 3000, 0, 0);
        x.rod(0, 0, 10000);
        plan(x, 0, 3000, 0, 0);
        plan(x, 66, 3000, 0, 0);
        plan(x, 67, 3000, 10000, 1);
    }

    /** Part 4: "the heap with it that is least as a number (bits)". */
    private static void theLeastOfLikeHeaps() {
        DikeHands x = new DikeHands();
        for (int r = 0; r < 30; r++) {
            x.rod(r, 0, 10000);
        }
        plan(x, 1, 1030, 10000, 1);
        plan(x, 3, 1030, 30000, 7);
        x.rod(0, 1, 10000);
        plan(x, 1, 1030, 10000, 2);
        plan(x, 2, 1030, 20000, 6);
        DikeHands two = new DikeHands();
        two.rod(29, 0, 3);
        two.rod(28, 0, 2);
        two.rod(27, 0, 1);
        plan(two, 2, 1030, 5, 1 << 29 | 1 << 28);
        two.rod(26, 1, 3);
        plan(two, 2, 1030, 5, 1 << 29 | 1 << 28);
        two.rod(29, 1, 3);
        plan(two, 2, 1030, 3, 1 << 26);
        two.rod(26, 1, 2);
        plan(two, 2, 1030, 3, 1 << 27 | 1 << 28);
        two.rod(0, 0, 1);
        plan(two, 2, 1030, 3, 1 | 1 << 28);
    }

    private static void noRodWithoutLossIsChosen() {
        DikeHands x = new DikeHands();
        x.rod(5, 0, 1);
        plan(x, 300, 1030, 1, 1 << 5);
        x.rod(5, 0, 0);
        plan(x, 300, 1030, 0, 0);
    }

    /** All rods at their greatest LOSS, with all days. */
    private static void theWholeBank() {
        DikeHands x = new DikeHands();
        for (int r = 0; r < 30; r++) {
            x.rod(r, 2, 10000);
        }
        plan(x, 300, 1100, 300000, (1 << 30) - 1);
        plan(x, 300, 1101, 270000, (1 << 27) - 1);
        plan(x, 299, 1100, 290000, (1 << 29) - 1);
        plan(x, 29, 1010, 290000, (1 << 29) - 1);
        plan(x, 30, 1010, 300000, (1 << 30) - 1);
    }
}
