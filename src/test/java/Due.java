/** Counts the answers that are not as due, prints them, and ends a test with exit code 1 if there was one. */
final class Due {
    private int wrong = 0;

    void is(String call, long got, long want) {
        if (got != want) {
            wrong++;
            System.out.println(call + " answered " + got + ", due is " + want);
        }
    }

    void yes(String call, boolean got) {
        is(call, got ? 1 : 0, 1);
    }

    void no(String call, boolean got) {
        is(call, got ? 1 : 0, 0);
    }

    void same(String what, String got, String want) {
        if (!got.equals(want)) {
            wrong++;
            System.out.println(what + " is " + got + ", due is " + want);
        }
    }

    void end() {
        System.out.println(wrong == 0 ? "all answers are as due" : wrong + " answers are not as due");
        if (wrong != 0) {
            System.exit(1);
        }
    }

    /**
     * What an object answers of its state, as one text: to see that a refused call changed nothing.
     * It asks little enough that a test may take it twice and stay below an object's 512 calls.
     */
    static String stateOf(DikeHands x) {
        StringBuilder s = new StringBuilder();
        for (int what = 0; what <= 8; what++) {
            s.append(x.count(what)).append(' ');
        }
        for (int h = 0; h < x.count(1); h++) {
            appendHouse(s, x, h, x.count(0) / 52);
        }
        for (int r = 0; r < 30; r++) {
            for (int what = 0; what <= 3; what++) {
                s.append(x.bank(r, what, 3000)).append(' ');
            }
        }
        for (int v = 0; v < 8; v++) {
            s.append(x.paperWeek(v)).append(' ').append(x.called(0, v)).append(' ');
        }
        for (int hour = 0; hour <= 100; hour += 20) {
            s.append(x.arrived(0, 7, hour)).append(' ');
        }
        return s.append(x.saved(120, 2000)).append(' ').append(x.chosen(120, 2000)).toString();
    }

    private static void appendHouse(StringBuilder s, DikeHands x, int h, int year) {
        s.append(x.listed(h, year, 0)).append(' ').append(x.listed(h, year, 1)).append(' ');
        for (int what = 0; what <= 6; what++) {
            s.append(x.told(h, year, what)).append(' ');
        }
    }
}
