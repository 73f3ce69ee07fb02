/** Promises 15 and 16: villages that told more days than their hands can have worked. */
public final class PaperTest {
    private static final Due DUE = new Due();

    public static void main(String[] args) {
        moreThanSixDaysAHand();
        handsOfAllHousesOfTheVillage();
        noHandsAheadOfTheComing();
        aSubstitutesDaysAreTheWorkers();
        weeksAreApart();
        asKnownNow();
        hiredAndBoughtDaysAreNobodys();
        theFirstWeek();
        noSuchVillage();
        DUE.end();
    }

    private static DikeHands withLaw() {
        DikeHands x = new DikeHands();
        x.law(0, 90000, 1);
        return x;
    }

    private static void paperIs(DikeHands x, int village, int week) {
        DUE.is("paperWeek(" + village + ")", x.paperWeek(village), week);
        DUE.is("paper(" + village + ")", x.paper(village) ? 1 : 0, week == -1 ? 0 : 1);
    }

    private static void moreThanSixDaysAHand() {
        DikeHands x = withLaw();
        x.house(2, 100, 2);
        x.go(57);
        paperIs(x, 2, -1);
        x.work(0, 0, 7, 0);
        x.work(0, 9, 5, 0);
        paperIs(x, 2, -1);
        x.work(0, 3, 1, 0);
        paperIs(x, 2, 57);
        paperIs(x, 1, -1);
        paperIs(x, 3, -1);
        x.go(104);
        paperIs(x, 2, 57);
    }

    private static void handsOfAllHousesOfTheVillage() {
        DikeHands x = withLaw();
        x.house(0, 100, 1);
        x.house(0, 0, 2);
        x.house(1, 0, 20);
        x.go(52);
        x.work(0, 0, 18, 0);
        paperIs(x, 0, -1);
        x.work(0, 0, 1, 0);
        paperIs(x, 0, 52);
        x.house(0, 0, 1);
        paperIs(x, 0, -1);
        x.work(0, 0, 5, 0);
        paperIs(x, 0, -1);
        x.go(1);
        x.house(0, 0, 20);
        x.work(0, 0, 24, 0);
        paperIs(x, 0, -1);
    }

    private static void noHandsAheadOfTheComing() {
        DikeHands x = withLaw();
        x.house(0, 100, 1);
        x.go(52);
        x.work(0, 0, 7, 0);
        x.go(1);
        x.house(0, 0, 20);
        x.change(1, 53, 0, 19);
        paperIs(x, 0, 52);
        x.work(0, 0, 7, 0);
        x.change(0, 52, 100, 2);
        paperIs(x, 0, -1);
    }

    private static void aSubstitutesDaysAreTheWorkers() {
        DikeHands x = withLaw();
        x.house(4, 100, 0);
        x.house(4, 100, 1);
        x.go(52);
        x.work(1, 0, 3, 0);
        x.work(1, 0, 3, 1);
        paperIs(x, 4, -1);
        x.work(1, 0, 1, 0);
        paperIs(x, 4, 52);
    }

    private static void weeksAreApart() {
        DikeHands x = withLaw();
        x.house(0, 100, 1);
        x.go(52);
        for (int i = 0; i < 10; i++) {
            x.work(0, 0, 6, 0);
            x.go(1);
        }
        paperIs(x, 0, -1);
        x.work(0, 0, 6, 0);
        x.work(0, 0, 1, 0);
        paperIs(x, 0, 62);
    }

    private static void asKnownNow() {
        DikeHands x = withLaw();
        x.house(0, 500, 2);
        x.go(52);
        x.work(0, 0, 12, 0);
        x.go(4);
        x.work(0, 0, 12, 0);
        x.go(4);
        paperIs(x, 0, -1);
        x.change(0, 56, 500, 1);
        paperIs(x, 0, 56);
        x.change(0, 10, 500, 1);
        paperIs(x, 0, 52);
        x.change(0, 52, 500, 2);
        paperIs(x, 0, 56);
        x.change(0, 56, 500, 3);
        paperIs(x, 0, -1);
        x.change(0, 57, 500, 0);
        paperIs(x, 0, -1);
        x.change(0, 52, 500, 0);
        paperIs(x, 0, 52);
        x.change(0, 52, 500, 9);
        paperIs(x, 0, -1);
        x.change(0, 51, 500, 0);
        paperIs(x, 0, -1);
    }

    private static void hiredAndBoughtDaysAreNobodys() {
        DikeHands x = withLaw();
        x.house(0, 500, 0);
        x.go(52);
        x.buy(0, 100);
        x.hire(0, 50);
        paperIs(x, 0, -1);
        x.work(0, 0, 1, 0);
        paperIs(x, 0, 52);
    }

    private static void theFirstWeek() {
        DikeHands x = withLaw();
        x.house(7, 500, 1);
        x.go(52);
        x.work(0, 0, 6, 0);
        x.go(1);
        x.work(0, 0, 8, 0);
        x.go(1);
        x.work(0, 0, 30, 0);
        paperIs(x, 7, 53);
        x.go(104);
        x.go(104);
        for (int i = 0; i < 7; i++) {
            x.go(104);
        }
        x.go(49);
        x.change(0, 53, 500, 20);
        DUE.is("count(0)", x.count(0), 1039);
        x.work(0, 0, 121, 0);
        paperIs(x, 7, 1039);
        x.go(1);
        paperIs(x, 7, 1039);
    }

    private static void noSuchVillage() {
        DikeHands x = withLaw();
        int[] none = {-1, 8, Integer.MIN_VALUE, Integer.MAX_VALUE};
        for (int village : none) {
            paperIs(x, village, -1);
        }
    }
}
