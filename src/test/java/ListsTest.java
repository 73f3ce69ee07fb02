/** Promises 4 to 8: laws, houses, changes, what is listed and what is owed. */
public final class ListsTest {
    private static final Due DUE = new Due();

    public static void main(String[] args) {
        lawsAreToldAndRefused();
        theLawOfAYear();
        housesComeAndAreRefused();
        changesAreToldAndRefused();
        changesEndAt200();
        listedIsWhatWasToldAheadOfTheYear();
        listedGoesByTheTellingNotByTheWeekOfTruth();
        listedIsRefused();
        owedByListAndLaw();
        owedIsRefused();
        theYearBehindTheLastWeek();
        DUE.end();
    }

    private static void lawsAreToldAndRefused() {
        DikeHands x = new DikeHands();
        String before = Due.stateOf(x);
        int[][] refused = {
            {-1, 0, 0}, {20, 0, 0}, {0, -1, 0}, {0, 100000, 0}, {0, 501, 0}, {0, 99501, 0}, {0, 999, 0}, {0, 1501, 0},
            {0, 0, -1}, {0, 0, 101}, {Integer.MIN_VALUE, 0, 0}, {Integer.MAX_VALUE, 0, 0},
            {0, Integer.MIN_VALUE, 0}, {0, Integer.MAX_VALUE, 0}, {0, 0, Integer.MIN_VALUE}, {0, 0, Integer.MAX_VALUE},
            {0, -9500, 0}, {0, -1000, 5}
        };
        for (int[] a : refused) {
            DUE.is("law(" + a[0] + ", " + a[1] + ", " + a[2] + ")", x.law(a[0], a[1], a[2]), -1);
        }
        DUE.same("the state after refused laws", Due.stateOf(x), before);
        DUE.is("law(19, 99500, 100)", x.law(19, 99500, 100), 1);
        DUE.is("law(0, 0, 0)", x.law(0, 0, 0), 2);
        for (int i = 3; i <= 40; i++) {
            DUE.is("law(i % 20, 500, 1)", x.law(i % 20, 500, 1), i);
        }
        DUE.is("law 41", x.law(0, 0, 0), -1);
        DUE.is("count(2)", x.count(2), 40);
    }

    private static void theLawOfAYear() {
        DikeHands x = new DikeHands();
        x.house(0, 0, 1);
        x.go(104);
        x.go(104);
        for (int year = 1; year <= 4; year++) {
            DUE.is("no law: owed(0, " + year + ")", x.owed(0, year), 0);
        }
        x.law(3, 3000, 0);
        owedOfYears(x, 0, 0, 3, 3);
        x.law(1, 1000, 0);
        owedOfYears(x, 1, 1, 3, 3);
        x.law(1, 2000, 0);
        owedOfYears(x, 2, 2, 3, 3);
        x.law(5, 9000, 0);
        owedOfYears(x, 2, 2, 3, 3);
        x.law(4, 4000, 0);
        owedOfYears(x, 2, 2, 3, 4);
        x.law(3, 5000, 0);
        owedOfYears(x, 2, 2, 5, 4);
        x.law(0, 7000, 0);
        owedOfYears(x, 2, 2, 5, 4);
    }

    private static void owedOfYears(DikeHands x, int... want) {
        for (int i = 0; i < want.length; i++) {
            DUE.is("owed(0, " + (i + 1) + ")", x.owed(0, i + 1), want[i]);
        }
    }

    private static void housesComeAndAreRefused() {
        DikeHands x = new DikeHands();
        String before = Due.stateOf(x);
        int[][] refused = {
            {-1, 0, 0}, {8, 0, 0}, {0, -1, 0}, {0, 501, 0}, {0, 0, -1}, {0, 0, 21},
            {Integer.MAX_VALUE, 0, 0}, {0, Integer.MIN_VALUE, 0}, {0, 0, Integer.MAX_VALUE}
        };
        for (int[] a : refused) {
            DUE.is("house(" + a[0] + ", " + a[1] + ", " + a[2] + ")", x.house(a[0], a[1], a[2]), -1);
        }
        DUE.same("the state after refused houses", Due.stateOf(x), before);
        DUE.is("house(7, 500, 20)", x.house(7, 500, 20), 0);
        DUE.is("house(0, 0, 0)", x.house(0, 0, 0), 1);
        for (int i = 2; i < 40; i++) {
            DUE.is("house(1, 1, 1)", x.house(1, 1, 1), i);
        }
        DUE.is("house 41", x.house(1, 1, 1), -1);
        DUE.is("count(1)", x.count(1), 40);
    }

    private static void changesAreToldAndRefused() {
        DikeHands x = new DikeHands();
        x.go(10);
        x.house(0, 5, 5);
        x.go(10);
        String before = Due.stateOf(x);
        int[][] refused = {
            {-1, 15, 0, 0}, {1, 15, 0, 0}, {0, 21, 0, 0}, {0, 9, 0, 0}, {0, -1, 0, 0}, {0, 15, -1, 0},
            {0, 15, 501, 0}, {0, 15, 0, -1}, {0, 15, 0, 21}, {Integer.MIN_VALUE, 15, 0, 0},
            {0, Integer.MAX_VALUE, 0, 0}, {0, Integer.MIN_VALUE, 0, 0}
        };
        for (int[] a : refused) {
            DUE.no("change(" + a[0] + ", " + a[1] + ", " + a[2] + ", " + a[3] + ")", x.change(a[0], a[1], a[2], a[3]));
        }
        DUE.same("the state after refused changes", Due.stateOf(x), before);
        DUE.yes("change(0, 20, 500, 20)", x.change(0, 20, 500, 20));
        DUE.is("arrived: true now", x.arrived(0, 0, 0), 20);
        DUE.yes("change(0, 10, 0, 0)", x.change(0, 10, 0, 0));
        DUE.is("arrived: a change true from earlier on", x.arrived(0, 0, 0), 20);
        DUE.yes("change(0, 20, 500, 3)", x.change(0, 20, 500, 3));
        DUE.is("arrived: of like weeks the latest told", x.arrived(0, 0, 0), 3);
        DUE.is("count(3)", x.count(3), 3);
    }

    private static void changesEndAt200() {
        DikeHands x = new DikeHands();
        x.house(0, 0, 0);
        x.house(0, 0, 0);
        for (int i = 0; i < 200; i++) {
            DUE.yes("change " + (i + 1), x.change(i % 2, 0, i, i % 21));
        }
        DUE.no("change 201", x.change(0, 0, 1, 1));
        DUE.is("count(3)", x.count(3), 200);
        DUE.is("arrived(0, 0, 0)", x.arrived(0, 0, 0), 198 % 21 + 199 % 21);
    }

    private static void listedIsWhatWasToldAheadOfTheYear() {
        DikeHands x = new DikeHands();
        x.go(51);
        x.house(0, 31, 1);
        x.go(1);
        x.house(0, 32, 2);
        DUE.is("came in week 51: listed(0, 1, 0)", x.listed(0, 1, 0), 31);
        DUE.is("came in week 52: listed(1, 1, 0)", x.listed(1, 1, 0), -1);
        x.change(0, 52, 33, 3);
        DUE.is("told in week 52: listed(0, 1, 0)", x.listed(0, 1, 0), 31);
        x.go(51);
        x.change(0, 52, 34, 4);
        x.change(0, 51, 35, 5);
        DUE.is("not yet listed(0, 2, 0)", x.listed(0, 2, 0), -1);
        x.go(1);
        DUE.is("told in week 103: listed(0, 2, 0)", x.listed(0, 2, 0), 35);
        DUE.is("told in week 103: listed(0, 2, 1)", x.listed(0, 2, 1), 5);
        DUE.is("listed(0, 1, 0) stays", x.listed(0, 1, 0), 31);
        DUE.is("listed(0, 1, 1) stays", x.listed(0, 1, 1), 1);
        DUE.is("listed(0, 0, 0)", x.listed(0, 0, 0), -1);
        DUE.is("listed(1, 2, 0)", x.listed(1, 2, 0), 32);
        x.change(0, 104, 36, 6);
        DUE.is("told in week 104: listed(0, 2, 0)", x.listed(0, 2, 0), 35);
    }

    private static void listedGoesByTheTellingNotByTheWeekOfTruth() {
        DikeHands x = new DikeHands();
        x.house(2, 10, 1);
        x.go(40);
        x.change(0, 40, 20, 2);
        x.go(5);
        x.change(0, 7, 30, 3);
        x.go(7);
        DUE.is("listed(0, 1, 0)", x.listed(0, 1, 0), 30);
        DUE.is("listed(0, 1, 1)", x.listed(0, 1, 1), 3);
        DUE.is("true now are 2 hands", x.arrived(2, 0, 0), 2);
    }

    private static void listedIsRefused() {
        DikeHands x = new DikeHands();
        x.house(0, 10, 1);
        x.go(60);
        int[][] refused = {
            {-1, 1, 0}, {1, 1, 0}, {0, -1, 0}, {0, 2, 0}, {0, 1, -1}, {0, 1, 2}, {0, 0, 0},
            {Integer.MAX_VALUE, 1, 0}, {0, Integer.MIN_VALUE, 0}, {0, Integer.MAX_VALUE, 0}, {0, 1, Integer.MIN_VALUE}
        };
        for (int[] a : refused) {
            DUE.is("listed(" + a[0] + ", " + a[1] + ", " + a[2] + ")", x.listed(a[0], a[1], a[2]), -1);
        }
        DUE.is("listed(0, 1, 0)", x.listed(0, 1, 0), 10);
    }

    private static void owedByListAndLaw() {
        DikeHands x = new DikeHands();
        x.law(0, 34020, 0);
        x.house(0, 19, 7);
        x.house(0, 20, 7);
        x.house(0, 29, 0);
        x.house(0, 500, 20);
        DUE.is("year 0: owed(3, 0)", x.owed(3, 0), 0);
        x.go(52);
        x.house(0, 500, 20);
        DUE.is("fewer acres than exempt: owed(0, 1)", x.owed(0, 1), 0);
        DUE.is("as many acres as exempt: owed(1, 1)", x.owed(1, 1), 2 * 3 + 7 * 4);
        DUE.is("tens of acres are cut: owed(2, 1)", x.owed(2, 1), 2 * 3);
        DUE.is("owed(3, 1)", x.owed(3, 1), 50 * 3 + 20 * 4);
        DUE.is("not listed: owed(4, 1)", x.owed(4, 1), 0);
        x.law(1, 99500, 0);
        DUE.is("owed(3, 1) at the most", x.owed(3, 1), 630);
        DUE.is("owed(2, 1) exempt", x.owed(2, 1), 0);
    }

    private static void owedIsRefused() {
        DikeHands x = new DikeHands();
        x.house(0, 10, 1);
        x.go(51);
        DUE.is("owed(0, 0)", x.owed(0, 0), 0);
        DUE.is("owed(0, 1)", x.owed(0, 1), -1);
        DUE.is("owed(0, -1)", x.owed(0, -1), -1);
        DUE.is("owed(1, 0)", x.owed(1, 0), -1);
        DUE.is("owed(-1, 0)", x.owed(-1, 0), -1);
        DUE.is("owed(0, max)", x.owed(0, Integer.MAX_VALUE), -1);
        DUE.is("owed(max, 0)", x.owed(Integer.MAX_VALUE, 0), -1);
        x.go(1);
        DUE.is("owed(0, 1) as it begins", x.owed(0, 1), 0);
    }

    private static void theYearBehindTheLastWeek() {
        DikeHands x = new DikeHands();
        x.law(19, 1000, 4);
        for (int i = 0; i < 10; i++) {
            x.go(104);
        }
        DUE.is("house at the end", x.house(0, 70, 6), 0);
        DUE.yes("change(0, 1040, 70, 9)", x.change(0, 1040, 70, 9));
        DUE.no("change(0, 1041, 70, 9)", x.change(0, 1041, 70, 9));
        DUE.no("change(0, 1039, 70, 9)", x.change(0, 1039, 70, 9));
        DUE.is("listed(0, 20, 0)", x.listed(0, 20, 0), -1);
        DUE.is("owed(0, 20)", x.owed(0, 20), 0);
        DUE.is("owed(0, 21)", x.owed(0, 21), -1);
        DUE.is("told(0, 20, 5)", x.told(0, 20, 5), -1);
        DUE.is("arrived(0, 0, 0)", x.arrived(0, 0, 0), 9);
    }
}
