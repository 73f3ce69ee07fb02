/** Promises 9, 10, 11 and 14: days that are done, bought and hired, and what is told of them. */
public final class DaysTest {
    private static final Due DUE = new Due();

    public static void main(String[] args) {
        workForItself();
        workAsSubstitute();
        oneSubstituteAYear();
        workIsRefused();
        buying();
        buyingIsRefused();
        hiring();
        hiringIsRefused();
        moreMetThanOwed();
        toldIsRefused();
        nothingIsDoneBehindTheLastWeek();
        DUE.end();
    }

    /** Houses 0, 1, 2 in village 0 and 3 in village 1 owe 20 days each in year 1; a day costs 4. */
    private static DikeHands four() {
        DikeHands x = new DikeHands();
        x.law(0, 20000, 4);
        x.house(0, 100, 1);
        x.house(0, 100, 1);
        x.house(0, 100, 1);
        x.house(1, 100, 1);
        x.go(52);
        return x;
    }

    private static void told(DikeHands x, int house, int year, int... want) {
        for (int what = 0; what < want.length; what++) {
            DUE.is("told(" + house + ", " + year + ", " + what + ")", x.told(house, year, what), want[what]);
        }
    }

    private static void workForItself() {
        DikeHands x = four();
        DUE.is("work(0, 3, 5, 0)", x.work(0, 3, 5, 0), 15);
        DUE.is("work(0, 4, 15, 0)", x.work(0, 4, 15, 0), 0);
        DUE.is("work(0, 4, 1, 0)", x.work(0, 4, 1, 0), -1);
        told(x, 0, 1, 20, 20, 0, 0, 0, -1, 0);
        told(x, 1, 1, 20, 0, 0, 0, 20, -1, 0);
        told(x, 0, 0, 0, 0, 0, 0, 0, -1, 0);
        DUE.is("bank(3, 0, 0)", x.bank(3, 0, 0), 1150);
        DUE.is("bank(4, 0, 0)", x.bank(4, 0, 0), 1450);
        DUE.is("bank(4, 2, 0)", x.bank(4, 2, 0), 15);
        DUE.is("count(6)", x.count(6), 20);
        x.go(52);
        told(x, 0, 2, 20, 0, 0, 0, 20, -1, 0);
        DUE.is("a new year: work(0, 3, 1, 0)", x.work(0, 3, 1, 0), 19);
        told(x, 0, 1, 20, 20, 0, 0, 0, -1, 0);
        told(x, 0, 2, 20, 1, 0, 0, 19, -1, 0);
    }

    private static void workAsSubstitute() {
        DikeHands x = four();
        DUE.is("work(1, 0, 6, 0)", x.work(1, 0, 6, 0), 14);
        DUE.is("work(1, 0, 3, 0)", x.work(1, 0, 3, 0), 11);
        DUE.is("work(1, 0, 2, 2)", x.work(1, 0, 2, 2), 18);
        DUE.is("work(1, 0, 1, 1)", x.work(1, 0, 1, 1), 19);
        DUE.is("work(0, 0, 4, 1)", x.work(0, 0, 4, 1), 15);
        told(x, 0, 1, 20, 0, 9, 0, 11, 1, 4);
        told(x, 1, 1, 20, 1, 4, 0, 15, 0, 11);
        told(x, 2, 1, 20, 0, 2, 0, 18, 1, 0);
        DUE.is("bank(0, 2, 0)", x.bank(0, 2, 0), 16);
        DUE.is("count(6)", x.count(6), 16);
    }

    private static void oneSubstituteAYear() {
        DikeHands x = four();
        x.work(1, 0, 1, 0);
        String before = Due.stateOf(x);
        DUE.is("another substitute: work(2, 0, 1, 0)", x.work(2, 0, 1, 0), -1);
        DUE.is("of another village: work(3, 0, 1, 2)", x.work(3, 0, 1, 2), -1);
        DUE.is("of another village: work(2, 0, 1, 3)", x.work(2, 0, 1, 3), -1);
        DUE.same("the state after refused substitutes", Due.stateOf(x), before);
        DUE.is("for itself yet: work(0, 0, 1, 0)", x.work(0, 0, 1, 0), 18);
        DUE.is("the same one: work(1, 0, 1, 0)", x.work(1, 0, 1, 0), 17);
        x.go(51);
        DUE.is("the year's last week: work(2, 0, 1, 0)", x.work(2, 0, 1, 0), -1);
        x.go(1);
        DUE.is("the next year: work(2, 0, 1, 0)", x.work(2, 0, 1, 0), 19);
        DUE.is("the next year: work(1, 0, 1, 0)", x.work(1, 0, 1, 0), -1);
        DUE.is("told(0, 1, 5)", x.told(0, 1, 5), 1);
        DUE.is("told(0, 2, 5)", x.told(0, 2, 5), 2);
        DUE.is("told(2, 2, 6)", x.told(2, 2, 6), 1);
        DUE.is("told(2, 1, 6)", x.told(2, 1, 6), 0);
    }

    private static void workIsRefused() {
        DikeHands x = four();
        x.go(3);
        x.house(0, 100, 1);
        String before = Due.stateOf(x);
        int[][] refused = {
            {-1, 0, 1, 0}, {5, 0, 1, 0}, {0, -1, 1, 0}, {0, 30, 1, 0}, {0, 0, 0, 0}, {0, 0, -1, 0}, {0, 0, 21, 0},
            {0, 0, 1, -1}, {0, 0, 1, 5}, {0, 0, 1, 4}, {4, 0, 1, 4}, {0, 0, 21, 1}, {0, 0, 0, 1},
            {Integer.MAX_VALUE, 0, 1, 0}, {0, Integer.MIN_VALUE, 1, 0}, {0, 0, Integer.MAX_VALUE, 0},
            {0, 0, Integer.MIN_VALUE, 0}, {0, 0, 1, Integer.MAX_VALUE}
        };
        for (int[] a : refused) {
            DUE.is("work(" + a[0] + ", " + a[1] + ", " + a[2] + ", " + a[3] + ")", x.work(a[0], a[1], a[2], a[3]), -1);
        }
        DUE.same("the state after refused work", Due.stateOf(x), before);
        DUE.is("a house that isn't listed as substitute: work(4, 29, 20, 0)", x.work(4, 29, 20, 0), 0);
    }

    private static void buying() {
        DikeHands x = four();
        x.work(0, 0, 5, 0);
        x.work(1, 0, 5, 0);
        DUE.is("buy(0, 4)", x.buy(0, 4), 16);
        DUE.is("buy(0, 6)", x.buy(0, 6), 40);
        DUE.is("buy(3, 20)", x.buy(3, 20), 120);
        told(x, 0, 1, 20, 5, 5, 10, 0, 1, 0);
        told(x, 3, 1, 20, 0, 0, 20, 0, -1, 0);
        DUE.is("count(4)", x.count(4), 120);
        DUE.is("count(7)", x.count(7), 30);
        DUE.is("count(6)", x.count(6), 10);
        x.law(2, 20000, 9);
        DUE.is("a law of the next year: buy(2, 1)", x.buy(2, 1), 124);
        x.law(1, 20000, 100);
        DUE.is("a law of this year: buy(2, 1)", x.buy(2, 1), 224);
        x.go(52);
        DUE.is("the next year: buy(2, 1)", x.buy(2, 1), 233);
        x.law(2, 20000, 0);
        DUE.is("for no coin: buy(2, 2)", x.buy(2, 2), 233);
        told(x, 2, 2, 20, 0, 0, 3, 17, -1, 0);
    }

    private static void buyingIsRefused() {
        DikeHands x = four();
        x.buy(0, 3);
        String before = Due.stateOf(x);
        int[][] refused = {
            {-1, 1}, {4, 1}, {0, 0}, {0, -1}, {0, 18}, {1, 21}, {Integer.MIN_VALUE, 1}, {0, Integer.MAX_VALUE},
            {0, Integer.MIN_VALUE}
        };
        for (int[] a : refused) {
            DUE.is("buy(" + a[0] + ", " + a[1] + ")", x.buy(a[0], a[1]), -1);
        }
        DUE.same("the state after refused buying", Due.stateOf(x), before);
        DUE.is("buy(0, 17)", x.buy(0, 17), 80);
    }

    private static void hiring() {
        DikeHands x = four();
        x.buy(0, 10);
        x.rod(6, 1, 0);
        DUE.is("hire(6, 11)", x.hire(6, 11), -1);
        DUE.is("hire(6, 7)", x.hire(6, 7), 12);
        DUE.is("bank(6, 0, 0)", x.bank(6, 0, 0), 1140);
        DUE.is("bank(6, 2, 0)", x.bank(6, 2, 0), 7);
        DUE.is("count(8)", x.count(8), 7);
        DUE.is("count(6)", x.count(6), 0);
        DUE.is("count(4)", x.count(4), 12);
        x.law(1, 20000, 5);
        DUE.is("hire(6, 3)", x.hire(6, 3), -1);
        DUE.is("hire(6, 2)", x.hire(6, 2), 2);
        DUE.is("count(8)", x.count(8), 9);
        x.law(1, 20000, 2);
        DUE.is("all that the chest has: hire(6, 1)", x.hire(6, 1), 0);
        DUE.is("an empty chest: hire(6, 1)", x.hire(6, 1), -1);
        DUE.is("count(8)", x.count(8), 10);
        DUE.is("paperWeek(0)", x.paperWeek(0), -1);
        told(x, 0, 1, 20, 0, 0, 10, 10, -1, 0);
    }

    private static void hiringIsRefused() {
        DikeHands x = four();
        x.law(1, 90000, 100);
        x.buy(0, 90);
        x.law(1, 90000, 1);
        String before = Due.stateOf(x);
        int[][] refused = {
            {-1, 1}, {30, 1}, {0, 0}, {0, -1}, {0, 1001}, {Integer.MAX_VALUE, 1}, {0, Integer.MAX_VALUE},
            {0, Integer.MIN_VALUE}
        };
        for (int[] a : refused) {
            DUE.is("hire(" + a[0] + ", " + a[1] + ")", x.hire(a[0], a[1]), -1);
        }
        DUE.same("the state after refused hiring", Due.stateOf(x), before);
        DUE.is("hire(29, 1000)", x.hire(29, 1000), 8000);
        DUE.is("bank(29, 0, 0)", x.bank(29, 0, 0), 3000);
        DUE.is("bank(29, 2, 0)", x.bank(29, 2, 0), 1000);
        x.law(1, 90000, 0);
        DUE.is("no coin of a day: hire(0, 1)", x.hire(0, 1), -1);
        DUE.is("count(8)", x.count(8), 1000);
    }

    private static void moreMetThanOwed() {
        DikeHands x = four();
        x.work(0, 0, 10, 0);
        x.law(1, 5000, 4);
        told(x, 0, 1, 5, 10, 0, 0, 0, -1, 0);
        DUE.is("work(0, 0, 1, 0)", x.work(0, 0, 1, 0), -1);
        DUE.is("work(1, 0, 1, 0)", x.work(1, 0, 1, 0), -1);
        DUE.is("buy(0, 1)", x.buy(0, 1), -1);
        x.law(1, 20000, 4);
        told(x, 0, 1, 20, 10, 0, 0, 10, -1, 0);
    }

    private static void toldIsRefused() {
        DikeHands x = four();
        int[][] refused = {
            {-1, 1, 0}, {4, 1, 0}, {0, -1, 0}, {0, 2, 0}, {0, 1, -1}, {0, 1, 7}, {Integer.MIN_VALUE, 1, 0},
            {0, Integer.MAX_VALUE, 0}, {0, Integer.MIN_VALUE, 1}, {0, 1, Integer.MAX_VALUE}
        };
        for (int[] a : refused) {
            DUE.is("told(" + a[0] + ", " + a[1] + ", " + a[2] + ")", x.told(a[0], a[1], a[2]), -1);
        }
    }

    private static void nothingIsDoneBehindTheLastWeek() {
        DikeHands x = four();
        for (int i = 0; i < 9; i++) {
            x.go(104);
        }
        x.go(51);
        DUE.is("week 1039: count(0)", x.count(0), 1039);
        DUE.is("week 1039: work(0, 0, 1, 0)", x.work(0, 0, 1, 0), 19);
        DUE.is("week 1039: buy(0, 2)", x.buy(0, 2), 8);
        x.go(1);
        String before = Due.stateOf(x);
        DUE.is("week 1040: work(0, 0, 1, 0)", x.work(0, 0, 1, 0), -1);
        DUE.is("week 1040: work(1, 0, 1, 0)", x.work(1, 0, 1, 0), -1);
        DUE.is("week 1040: buy(0, 1)", x.buy(0, 1), -1);
        DUE.same("the state of week 1040", Due.stateOf(x), before);
        told(x, 0, 20, 20, 0, 0, 0, 20, -1, 0);
        told(x, 0, 19, 20, 1, 0, 2, 17, -1, 0);
        DUE.is("week 1040: hire(0, 1)", x.hire(0, 1), 4);
    }
}
