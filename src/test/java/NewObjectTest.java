/** Promises 1 and 22: a new object, and what is counted. */
public final class NewObjectTest {
    private static final Due DUE = new Due();

    public static void main(String[] args) {
        aNewObjectIsEmpty();
        eachCountCountsItsOwn();
        objectsShareNothing();
        DUE.end();
    }

    private static void aNewObjectIsEmpty() {
        DikeHands x = new DikeHands();
        for (int what = 0; what <= 8; what++) {
            DUE.is("new: count(" + what + ")", x.count(what), 0);
        }
        DUE.is("new: owed(0, 0)", x.owed(0, 0), -1);
        DUE.is("new: go(0)", x.go(0), 0);
        for (int r = 0; r < 30; r++) {
            DUE.is("new: bank(r, 0, 0)", x.bank(r, 0, 0), 1000);
            DUE.is("new: bank(r, 1, 0)", x.bank(r, 1, 0), 0);
            DUE.is("new: bank(r, 2, 0)", x.bank(r, 2, 0), 0);
            DUE.is("new: bank(r, 3, 1030)", x.bank(r, 3, 1030), 1);
            DUE.is("new: bank(r, 3, 1031)", x.bank(r, 3, 1031), 2);
        }
        for (int v = 0; v < 8; v++) {
            DUE.is("new: called(0, v)", x.called(0, v), 0);
            DUE.no("new: paper(v)", x.paper(v));
            DUE.is("new: paperWeek(v)", x.paperWeek(v), -1);
        }
        DUE.is("new: saved(300, 3000)", x.saved(300, 3000), 0);
        DUE.is("new: chosen(300, 3000)", x.chosen(300, 3000), 0);
        DUE.is("new: arrived(0, 0, 100)", x.arrived(0, 0, 100), 0);
        DUE.is("new: the levels are 0", x.go(104), 104);
        DUE.is("new: bank(0, 0, 0) after weeks", x.bank(0, 0, 0), 1000);
    }

    private static void eachCountCountsItsOwn() {
        DikeHands x = new DikeHands();
        x.law(0, 11000, 7);
        x.law(0, 11000, 3);
        x.house(0, 100, 10);
        x.house(0, 100, 10);
        x.house(3, 100, 10);
        x.rod(4, 0, 55);
        x.go(60);
        x.change(0, 3, 100, 10);
        x.work(0, 1, 4, 0);
        x.work(1, 1, 5, 0);
        x.buy(2, 6);
        x.hire(2, 2);
        x.river(60, 60, 1001);
        x.go(1);
        long[] want = {61, 3, 2, 1, 12, 55, 9, 6, 2};
        for (int what = 0; what < want.length; what++) {
            DUE.is("count(" + what + ")", x.count(what), want[what]);
        }
        DUE.is("count(9)", x.count(9), -1);
        DUE.is("count(-1)", x.count(-1), -1);
        DUE.is("count(min)", x.count(Integer.MIN_VALUE), -1);
        DUE.is("count(max)", x.count(Integer.MAX_VALUE), -1);
    }

    private static void objectsShareNothing() {
        String fresh = Due.stateOf(new DikeHands());
        DikeHands one = new DikeHands();
        one.house(0, 1, 1);
        one.law(0, 1000, 1);
        one.rod(0, 2, 9);
        one.village(1, 50);
        one.go(3);
        one.river(3, 9, 2000);
        one.go(3);
        DUE.same("a second object", Due.stateOf(new DikeHands()), fresh);
    }
}
