/** Promises 2, 20 and 21: where villages are, when they are called, and whose hands arrive. */
public final class CallTest {
    private static final Due DUE = new Due();

    public static void main(String[] args) {
        villagesAreRefused();
        hoursOfACall();
        callsAreRefused();
        handsArrive();
        handsThatAreTrueNow();
        arrivalsAreRefused();
        DUE.end();
    }

    private static void villagesAreRefused() {
        DikeHands x = new DikeHands();
        x.village(1, 50);
        String before = Due.stateOf(x);
        int[][] refused = {
            {-1, 0}, {8, 0}, {1, -1}, {1, 100}, {Integer.MIN_VALUE, 0}, {Integer.MAX_VALUE, 0},
            {1, Integer.MIN_VALUE}, {1, Integer.MAX_VALUE}
        };
        for (int[] a : refused) {
            DUE.no("village(" + a[0] + ", " + a[1] + ")", x.village(a[0], a[1]));
        }
        DUE.same("the state after refused villages", Due.stateOf(x), before);
        DUE.yes("village(7, 99)", x.village(7, 99));
        DUE.yes("village(0, 0)", x.village(0, 0));
        DUE.is("called(0, 7)", x.called(0, 7), 17);
        DUE.yes("village(7, 3)", x.village(7, 3));
        DUE.is("called(0, 7)", x.called(0, 7), 1);
    }

    private static void hoursOfACall() {
        DikeHands x = new DikeHands();
        int[][] mileAndHour = {{0, 0}, {1, 1}, {5, 1}, {6, 1}, {7, 2}, {12, 2}, {13, 3}, {96, 16}, {97, 17}, {99, 17}};
        for (int[] a : mileAndHour) {
            x.village(5, a[0]);
            DUE.is("called(2, 5) at " + a[0], x.called(2, 5), a[1]);
            DUE.is("called(5, 2) at " + a[0], x.called(5, 2), a[1]);
            DUE.is("called(5, 5) at " + a[0], x.called(5, 5), 0);
        }
        x.village(2, 90);
        DUE.is("called(2, 5)", x.called(2, 5), 2);
    }

    private static void callsAreRefused() {
        DikeHands x = new DikeHands();
        int[][] refused = {
            {-1, 0}, {8, 0}, {0, -1}, {0, 8}, {Integer.MIN_VALUE, 0}, {0, Integer.MAX_VALUE}, {8, 8}, {-1, -1}
        };
        for (int[] a : refused) {
            DUE.is("called(" + a[0] + ", " + a[1] + ")", x.called(a[0], a[1]), -1);
        }
    }

    private static void handsArrive() {
        DikeHands x = new DikeHands();
        x.village(0, 10);
        x.village(1, 23);
        x.village(2, 99);
        x.house(0, 0, 1);
        x.house(1, 0, 2);
        x.house(1, 0, 4);
        x.house(2, 0, 8);
        // To rod 4 at mile 12: village 0 walks 1 hour, village 1 is called in hour 3 and walks 4,
        // village 2 is called in hour 15 and walks 29.
        int[][] hourAndHands = {{0, 0}, {1, 1}, {6, 1}, {7, 7}, {43, 7}, {44, 15}, {100, 15}};
        for (int[] a : hourAndHands) {
            DUE.is("arrived(0, 4, " + a[0] + ")", x.arrived(0, 4, a[0]), a[1]);
        }
        DUE.is("arrived(2, 29, 3)", x.arrived(2, 29, 3), 0);
        DUE.is("arrived(2, 29, 4)", x.arrived(2, 29, 4), 8);
        DUE.is("the rider first: arrived(3, 0, 5)", x.arrived(3, 0, 5), 0);
        DUE.is("the rider first: arrived(3, 0, 6)", x.arrived(3, 0, 6), 1);
    }

    private static void handsThatAreTrueNow() {
        DikeHands x = new DikeHands();
        x.go(3);
        x.house(0, 0, 5);
        DUE.is("arrived(0, 0, 0)", x.arrived(0, 0, 0), 5);
        x.go(3);
        x.change(0, 4, 0, 7);
        DUE.is("arrived(0, 0, 0)", x.arrived(0, 0, 0), 7);
        x.change(0, 3, 0, 9);
        DUE.is("arrived(0, 0, 0)", x.arrived(0, 0, 0), 7);
        x.change(0, 4, 0, 2);
        DUE.is("arrived(0, 0, 0)", x.arrived(0, 0, 0), 2);
        x.go(100);
        DUE.is("arrived(0, 0, 0)", x.arrived(0, 0, 0), 2);
    }

    private static void arrivalsAreRefused() {
        DikeHands x = new DikeHands();
        x.house(0, 0, 5);
        int[][] refused = {
            {-1, 0, 0}, {8, 0, 0}, {0, -1, 0}, {0, 30, 0}, {0, 0, -1}, {0, 0, 101}, {Integer.MAX_VALUE, 0, 0},
            {0, Integer.MIN_VALUE, 0}, {0, Integer.MAX_VALUE, 0}, {0, 0, Integer.MIN_VALUE}, {0, 0, Integer.MAX_VALUE}
        };
        for (int[] a : refused) {
            DUE.is("arrived(" + a[0] + ", " + a[1] + ", " + a[2] + ")", x.arrived(a[0], a[1], a[2]), -1);
        }
        DUE.is("arrived(0, 0, 100)", x.arrived(0, 0, 100), 5);
        DUE.is("arrived(0, 29, 28)", x.arrived(0, 29, 28), 0);
        DUE.is("arrived(0, 29, 29)", x.arrived(0, 29, 29), 5);
    }
}
