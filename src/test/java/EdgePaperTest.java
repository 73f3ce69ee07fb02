/** The edges of promises 15 and 16: villages that told more days than their hands can have worked. */
public final class EdgePaperTest {
    private static final Due DUE = new Due();
    private static final Edge EDGE = new Edge(DUE);

    public static void main(String[] args) {
        villagesAre0To7();
        sixDaysForEachHand();
        noHandsAtAll();
        inOneWeek();
        theFirstWeekByWhichItIs();
        handsFromTheWeekOnInWhichTheyAreTrue();
        nothingAheadOfItsComing();
        ofLikeOnesTheLatestTold();
        theFirstAndTheLastWeek();
        DUE.end();
    }

    private static void paperIs(String name, DikeHands x, int village, int week) {
        DUE.is(name + ": paperWeek(" + village + ")", x.paperWeek(village), week);
        DUE.is(name + ": paper(" + village + ")", Edge.bit(x.paper(village)), week == -1 ? 0 : 1);
    }

    /** Week 52: a house of so many hands in a village; it owes 450 days. */
    private static DikeHands atWork(int village, int hands) {
        DikeHands x = new DikeHands();
        x.law(0, 90000, 1);
        x.house(village, 500, hands);
        x.go(52);
        return x;
    }

    /** All villages are PAPER from week 60 on: a house without hands worked in each. */
    private static void allPaper(DikeHands x) {
        Edge.busy(x);
        for (int v = 0; v < 8; v++) {
            x.house(v, 100, 0);
        }
        x.change(0, 0, 1, 0);
        x.change(1, 0, 1, 0);
        x.change(2, 0, 1, 0);
        x.change(3, 0, 1, 0);
        x.change(4, 52, 1, 0);
        x.go(44);
        x.change(0, 55, 1, 0);
        for (int h = 5; h < 13; h++) {
            x.work(h, 0, 1, h);
        }
    }

    /** Promise 15: "false if there is none such"; promise 16: "NONE .. if there is none such". */
    private static void villagesAre0To7() {
        EDGE.range("paper of a village", EdgePaperTest::allPaper, 0, 7, (x, v) -> Edge.bit(x.paper(v)), 0);
        EDGE.range("paperWeek of a village", EdgePaperTest::allPaper, 0, 7, (x, v) -> x.paperWeek(v), -1);
        DikeHands x = Edge.after(EdgePaperTest::allPaper);
        for (int v = 0; v < 8; v++) {
            paperIs("each by its own", x, v, v == 3 ? 52 : 104);
        }
        DikeHands none = new DikeHands();
        for (int v = -1; v <= 8; v++) {
            paperIs("no houses", none, v, -1);
        }
    }

    /** Part 2: "more days than 6 times the HANDS of them together". */
    private static void sixDaysForEachHand() {
        int[] hands = {1, 2, 19, 20};
        for (int h : hands) {
            DikeHands x = atWork(7, h);
            x.work(0, 0, 6 * h, 0);
            paperIs("6 times " + h, x, 7, -1);
            x.work(0, 29, 1, 0);
            paperIs("one more than 6 times " + h, x, 7, 52);
            paperIs("another village", x, 6, -1);
            x.house(7, 0, 1);
            paperIs("a hand more", x, 7, -1);
            x.work(0, 0, 5, 0);
            paperIs("6 times a hand more", x, 7, -1);
            x.work(0, 0, 1, 0);
            paperIs("and one more", x, 7, 52);
        }
    }

    private static void noHandsAtAll() {
        DikeHands x = atWork(0, 0);
        paperIs("no hands, no days", x, 0, -1);
        x.work(0, 0, 1, 0);
        paperIs("no hands, one day", x, 0, 52);
    }

    /** Part 2: "in some WEEK"; days of two weeks aren't added up. */
    private static void inOneWeek() {
        DikeHands x = atWork(2, 1);
        x.work(0, 0, 6, 0);
        x.go(1);
        x.work(0, 0, 6, 0);
        paperIs("6 and 6", x, 2, -1);
        x.go(51);
        x.work(0, 0, 6, 0);
        paperIs("6 in the next year", x, 2, -1);
        x.work(0, 0, 1, 0);
        paperIs("7 in one week", x, 2, 104);
    }

    /** Promise 16: "The first WEEK by which it is". */
    private static void theFirstWeekByWhichItIs() {
        DikeHands x = atWork(2, 1);
        x.work(0, 0, 6, 0);
        x.go(1);
        x.work(0, 0, 7, 0);
        x.go(1);
        x.work(0, 0, 20, 0);
        paperIs("the second week of three", x, 2, 53);
        x.change(0, 53, 500, 2);
        paperIs("the third week of three", x, 2, 54);
        x.change(0, 0, 500, 0);
        paperIs("the first week of three", x, 2, 52);
    }

    /** Terms: "the greatest WEEK from which it is true that isn't above that one". */
    private static void handsFromTheWeekOnInWhichTheyAreTrue() {
        DikeHands x = atWork(5, 2);
        x.go(8);
        x.work(0, 0, 12, 0);
        x.go(8);
        DUE.yes("true from the week behind", x.change(0, 61, 500, 0));
        paperIs("true from the week behind", x, 5, -1);
        DUE.yes("true from that week", x.change(0, 60, 500, 1));
        paperIs("true from that week", x, 5, 60);
        DUE.yes("true from the week ahead", x.change(0, 59, 500, 20));
        paperIs("true from the week ahead", x, 5, 60);
        DUE.yes("true from that week, told later", x.change(0, 60, 500, 2));
        paperIs("true from that week, told later", x, 5, -1);
    }

    /** Terms: "what it came with is true from its coming on", "nothing ahead of its coming". */
    private static void nothingAheadOfItsComing() {
        DikeHands x = atWork(5, 1);
        x.work(0, 0, 7, 0);
        x.go(1);
        x.work(0, 0, 7, 0);
        paperIs("both weeks", x, 5, 52);
        DUE.is("house(5, 0, 20)", x.house(5, 0, 20), 1);
        paperIs("the week ahead of its coming", x, 5, 52);
        DUE.no("change(1, 52, 0, 20)", x.change(1, 52, 0, 20));
        paperIs("a refused change", x, 5, 52);
        x.change(0, 52, 500, 2);
        x.change(0, 53, 500, 1);
        paperIs("the week of its coming", x, 5, -1);
        x.change(1, 53, 0, 0);
        paperIs("of like weeks a change counts, not the coming", x, 5, 53);
    }

    /** Terms: "of like ones the latest told". */
    private static void ofLikeOnesTheLatestTold() {
        DikeHands x = atWork(1, 3);
        x.work(0, 0, 12, 0);
        x.change(0, 52, 500, 1);
        paperIs("1 hand", x, 1, 52);
        x.change(0, 52, 500, 2);
        paperIs("2 hands", x, 1, -1);
        x.change(0, 52, 500, 0);
        paperIs("no hand", x, 1, 52);
        x.change(0, 0, 500, 20);
        paperIs("what is true from an earlier week", x, 1, 52);
    }

    /** Nothing is owed ahead of week 52; week 1039 is the last one. */
    private static void theFirstAndTheLastWeek() {
        DikeHands x = Edge.after(Edge::atTheLastWeek);
        x.work(0, 0, 30, 0);
        paperIs("week 1039", x, 3, -1);
        x.change(0, 1039, 0, 0);
        x.change(1, 1039, 0, 0);
        x.change(4, 1039, 0, 0);
        paperIs("week 1039, 3 hands", x, 3, 1039);
        x.go(1);
        paperIs("week 1040", x, 3, 1039);
        x.change(4, 1040, 0, 20);
        paperIs("hands of week 1040", x, 3, 1039);
        x.change(4, 1039, 0, 2);
        paperIs("5 hands in week 1039", x, 3, -1);
    }
}
