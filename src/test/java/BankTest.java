/** Promises 3, 12, 13 and 17: rods, the river, the weeks that end, and the bank. */
public final class BankTest {
    private static final Due DUE = new Due();

    public static void main(String[] args) {
        rodsAreRefused();
        soilsGrow();
        heightsEndAt3000();
        weeksWearTheBank();
        rodsBreak();
        theRiverIsRefused();
        aLaterLevelCounts();
        weeksEnd();
        daysThatARodNeeds();
        bankIsRefused();
        DUE.end();
    }

    private static DikeHands withWorkers() {
        DikeHands x = new DikeHands();
        x.law(0, 90000, 1);
        x.house(0, 500, 20);
        x.go(52);
        return x;
    }

    private static void rodsAreRefused() {
        DikeHands x = new DikeHands();
        x.rod(2, 1, 77);
        String before = Due.stateOf(x);
        int[][] refused = {
            {-1, 0, 0}, {30, 0, 0}, {2, -1, 0}, {2, 3, 0}, {2, 0, -1}, {2, 0, 10001}, {Integer.MAX_VALUE, 0, 0},
            {2, Integer.MIN_VALUE, 0}, {2, 0, Integer.MAX_VALUE}
        };
        for (int[] a : refused) {
            DUE.no("rod(" + a[0] + ", " + a[1] + ", " + a[2] + ")", x.rod(a[0], a[1], a[2]));
        }
        DUE.same("the state after refused rods", Due.stateOf(x), before);
        DUE.yes("rod(29, 2, 10000)", x.rod(29, 2, 10000));
        DUE.yes("rod(0, 0, 0)", x.rod(0, 0, 0));
        DUE.is("saved(300, 1001)", x.saved(300, 1001), 10077);
    }

    private static void soilsGrow() {
        DikeHands x = withWorkers();
        x.rod(1, 1, 0);
        x.rod(2, 2, 0);
        x.work(0, 0, 7, 0);
        x.work(0, 1, 7, 0);
        x.work(0, 2, 7, 0);
        DUE.is("clay: bank(0, 0, 0)", x.bank(0, 0, 0), 1210);
        DUE.is("loam: bank(1, 0, 0)", x.bank(1, 0, 0), 1140);
        DUE.is("sand: bank(2, 0, 0)", x.bank(2, 0, 0), 1070);
        x.rod(2, 0, 0);
        DUE.is("another soil keeps the height: bank(2, 0, 0)", x.bank(2, 0, 0), 1070);
        x.work(0, 2, 1, 0);
        DUE.is("and grows by its own: bank(2, 0, 0)", x.bank(2, 0, 0), 1100);
    }

    private static void heightsEndAt3000() {
        DikeHands x = withWorkers();
        x.work(0, 5, 66, 0);
        DUE.is("bank(5, 0, 0)", x.bank(5, 0, 0), 2980);
        x.work(0, 5, 1, 0);
        DUE.is("bank(5, 0, 0) at the most", x.bank(5, 0, 0), 3000);
        x.work(0, 5, 100, 0);
        DUE.is("bank(5, 0, 0) stays", x.bank(5, 0, 0), 3000);
        DUE.is("bank(5, 2, 0) counts all", x.bank(5, 2, 0), 167);
        x.river(52, 52, 3000);
        x.go(1);
        DUE.is("3000 isn't above 3000: bank(5, 0, 0)", x.bank(5, 0, 0), 2970);
        DUE.is("bank(5, 1, 0)", x.bank(5, 1, 0), 0);
    }

    private static void weeksWearTheBank() {
        DikeHands x = new DikeHands();
        int[][] levelAndHeight = {{99, 1000}, {100, 999}, {999, 990}, {199, 989}, {989, 980}, {0, 980}};
        for (int week = 0; week < levelAndHeight.length; week++) {
            x.river(week, week, levelAndHeight[week][0]);
            x.go(1);
            for (int r = 0; r < 30; r++) {
                DUE.is("bank(" + r + ", 0, 0) after week " + week, x.bank(r, 0, 0), levelAndHeight[week][1]);
            }
        }
    }

    private static void rodsBreak() {
        DikeHands x = new DikeHands();
        x.rod(0, 0, 10);
        x.rod(1, 0, 200);
        x.river(0, 0, 1000);
        x.river(1, 1, 991);
        x.river(2, 2, 1);
        x.go(1);
        DUE.is("as high: bank(0, 1, 0)", x.bank(0, 1, 0), 0);
        DUE.is("as high: bank(0, 0, 0)", x.bank(0, 0, 0), 990);
        x.rod(1, 0, 300);
        x.go(1);
        DUE.is("above: bank(0, 1, 0)", x.bank(0, 1, 0), 1);
        DUE.is("above: bank(0, 0, 0)", x.bank(0, 0, 0), 0);
        DUE.is("count(5)", x.count(5), 310);
        x.go(1);
        DUE.is("again: bank(0, 1, 0)", x.bank(0, 1, 0), 2);
        DUE.is("count(5)", x.count(5), 620);
        x.go(10);
        DUE.is("level 0 isn't above 0: bank(0, 1, 0)", x.bank(0, 1, 0), 2);
        DUE.is("count(5)", x.count(5), 620);
        DUE.is("bank(0, 0, 0)", x.bank(0, 0, 0), 0);
    }

    private static void theRiverIsRefused() {
        DikeHands x = new DikeHands();
        x.go(5);
        int[][] refused = {
            {4, 9, 3000}, {-1, 9, 3000}, {9, 8, 3000}, {5, 1040, 3000}, {5, 9, -1}, {5, 9, 3001},
            {Integer.MIN_VALUE, 9, 3000}, {5, Integer.MAX_VALUE, 3000}, {Integer.MAX_VALUE, Integer.MAX_VALUE, 3000},
            {5, 9, Integer.MIN_VALUE}, {5, 9, Integer.MAX_VALUE}, {5, Integer.MIN_VALUE, 3000}
        };
        for (int[] a : refused) {
            DUE.no("river(" + a[0] + ", " + a[1] + ", " + a[2] + ")", x.river(a[0], a[1], a[2]));
        }
        x.go(104);
        DUE.is("no level came of it: bank(0, 0, 0)", x.bank(0, 0, 0), 1000);
        for (int i = 0; i < 8; i++) {
            x.go(104);
        }
        DUE.is("go(98)", x.go(98), 1039);
        DUE.yes("river(1039, 1039, 500)", x.river(1039, 1039, 500));
        DUE.is("go(1)", x.go(1), 1040);
        DUE.is("bank(0, 0, 0)", x.bank(0, 0, 0), 995);
        DUE.no("river(1040, 1040, 500)", x.river(1040, 1040, 500));
        DUE.no("river(1039, 1039, 500)", x.river(1039, 1039, 500));
    }

    private static void aLaterLevelCounts() {
        DikeHands x = new DikeHands();
        DUE.yes("river(0, 1039, 900)", x.river(0, 1039, 900));
        DUE.yes("river(1, 2, 100)", x.river(1, 2, 100));
        DUE.yes("river(2, 2, 0)", x.river(2, 2, 0));
        int[] want = {991, 990, 990, 981};
        for (int i = 0; i < want.length; i++) {
            x.go(1);
            DUE.is("bank(17, 0, 0) after week " + i, x.bank(17, 0, 0), want[i]);
        }
    }

    private static void weeksEnd() {
        DikeHands x = new DikeHands();
        DUE.is("go(0)", x.go(0), 0);
        DUE.is("go(1)", x.go(1), 1);
        DUE.is("go(104)", x.go(104), 105);
        x.river(105, 105, 3000);
        String before = Due.stateOf(x);
        int[] refused = {-1, 105, Integer.MIN_VALUE, Integer.MAX_VALUE};
        for (int n : refused) {
            DUE.is("go(" + n + ")", x.go(n), -1);
        }
        DUE.is("go(0)", x.go(0), 105);
        DUE.same("the state after no week", Due.stateOf(x), before);
        for (int i = 0; i < 8; i++) {
            x.go(104);
        }
        DUE.is("up to 1040: go(104)", x.go(104), 1040);
        DUE.is("no further: go(1)", x.go(1), 1040);
        DUE.is("bank(0, 1, 0)", x.bank(0, 1, 0), 1);
    }

    private static void daysThatARodNeeds() {
        DikeHands x = new DikeHands();
        x.rod(1, 1, 0);
        x.rod(2, 2, 0);
        int[][] want = {
            {0, 0, 0, 0}, {999, 0, 0, 0}, {1000, 0, 0, 0}, {1001, 1, 1, 1}, {1010, 1, 1, 1}, {1011, 1, 1, 2},
            {1020, 1, 1, 2}, {1021, 1, 2, 3}, {1030, 1, 2, 3}, {1031, 2, 2, 4}, {3000, 67, 100, 200}
        };
        for (int[] a : want) {
            for (int soil = 0; soil <= 2; soil++) {
                DUE.is("bank(" + soil + ", 3, " + a[0] + ")", x.bank(soil, 3, a[0]), a[1 + soil]);
            }
        }
        x.river(0, 0, 1001);
        x.go(1);
        DUE.is("from 0: bank(2, 3, 3000)", x.bank(2, 3, 3000), 300);
        DUE.is("from 0: bank(2, 3, 0)", x.bank(2, 3, 0), 0);
    }

    private static void bankIsRefused() {
        DikeHands x = new DikeHands();
        int[][] refused = {
            {-1, 0, 0}, {30, 0, 0}, {0, -1, 0}, {0, 4, 0}, {0, 3, -1}, {0, 3, 3001}, {Integer.MIN_VALUE, 3, 0},
            {Integer.MAX_VALUE, 0, 0}, {0, Integer.MIN_VALUE, 0}, {0, 3, Integer.MIN_VALUE}, {0, 3, Integer.MAX_VALUE}
        };
        for (int[] a : refused) {
            DUE.is("bank(" + a[0] + ", " + a[1] + ", " + a[2] + ")", x.bank(a[0], a[1], a[2]), -1);
        }
        DUE.is("the level isn't asked: bank(0, 0, -1)", x.bank(0, 0, -1), 1000);
        DUE.is("the level isn't asked: bank(0, 1, 3001)", x.bank(0, 1, 3001), 0);
        DUE.is("the level isn't asked: bank(0, 2, max)", x.bank(0, 2, Integer.MAX_VALUE), 0);
    }
}
