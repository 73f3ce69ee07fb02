/** Promises 18 and 19: what a plan saves, and which rods it chooses. */
public final class PlanTest {
    private static final Due DUE = new Due();
    private static long seed = 20261116;

    public static void main(String[] args) {
        plansAreRefused();
        theLeastHeapOfLikeOnes();
        fewSmallRodsAgainstOneLargeOne();
        onlyRodsBelowTheLevel();
        allRods();
        aPlanChangesNothing();
        for (int run = 0; run < 60; run++) {
            likeAllHeapsTried();
        }
        DUE.end();
    }

    private static void plansAreRefused() {
        DikeHands x = new DikeHands();
        x.rod(0, 0, 1);
        int[][] refused = {
            {-1, 2000}, {301, 2000}, {10, -1}, {10, 3001}, {Integer.MIN_VALUE, 2000}, {Integer.MAX_VALUE, 2000},
            {10, Integer.MIN_VALUE}, {10, Integer.MAX_VALUE}
        };
        for (int[] a : refused) {
            DUE.is("saved(" + a[0] + ", " + a[1] + ")", x.saved(a[0], a[1]), -1);
            DUE.is("chosen(" + a[0] + ", " + a[1] + ")", x.chosen(a[0], a[1]), -1);
        }
        plan(x, 0, 0, 0, 0);
        plan(x, 300, 3000, 1, 1);
        plan(x, 0, 3000, 0, 0);
        plan(x, 66, 3000, 0, 0);
        plan(x, 67, 3000, 1, 1);
    }

    private static void plan(DikeHands x, int n, int l, int saved, int chosen) {
        DUE.is("saved(" + n + ", " + l + ")", x.saved(n, l), saved);
        DUE.is("chosen(" + n + ", " + l + ")", x.chosen(n, l), chosen);
    }

    private static void theLeastHeapOfLikeOnes() {
        DikeHands x = new DikeHands();
        x.rod(29, 0, 10);
        x.rod(3, 0, 4);
        x.rod(5, 0, 6);
        x.rod(9, 0, 10);
        plan(x, 1, 1010, 10, 1 << 9);
        plan(x, 2, 1010, 20, 1 << 9 | 1 << 29);
        plan(x, 4, 1010, 30, 1 << 3 | 1 << 5 | 1 << 9 | 1 << 29);
        x.rod(29, 0, 0);
        plan(x, 1, 1010, 10, 1 << 9);
        x.rod(29, 0, 10);
        x.rod(9, 2, 10);
        plan(x, 2, 1020, 16, 1 << 5 | 1 << 29);
        x.rod(5, 0, 4);
        x.rod(3, 0, 6);
        x.rod(9, 0, 0);
        plan(x, 2, 1010, 16, 1 << 3 | 1 << 29);
        x.rod(20, 2, 10);
        plan(x, 2, 1020, 16, 1 << 3 | 1 << 29);
        x.rod(29, 2, 10);
        plan(x, 2, 1020, 10, 1 << 3 | 1 << 5);
    }

    private static void fewSmallRodsAgainstOneLargeOne() {
        DikeHands x = new DikeHands();
        x.rod(0, 2, 100);
        x.rod(1, 0, 40);
        x.rod(2, 0, 40);
        x.rod(3, 0, 40);
        plan(x, 2, 1030, 80, 6);
        plan(x, 3, 1030, 120, 14);
        plan(x, 4, 1030, 140, 3);
        plan(x, 6, 1030, 220, 15);
    }

    private static void onlyRodsBelowTheLevel() {
        DikeHands x = new DikeHands();
        x.law(0, 90000, 1);
        x.house(0, 500, 20);
        x.go(52);
        x.rod(0, 0, 500);
        x.rod(1, 0, 300);
        x.work(0, 0, 10, 0);
        plan(x, 300, 1300, 300, 2);
        plan(x, 300, 1301, 800, 3);
        plan(x, 10, 1300, 300, 2);
        plan(x, 11, 1301, 500, 1);
        plan(x, 12, 1301, 800, 3);
        plan(x, 300, 1000, 0, 0);
        plan(x, 300, 1001, 300, 2);
    }

    private static void allRods() {
        DikeHands x = new DikeHands();
        for (int r = 0; r < 30; r++) {
            x.rod(r, 2, 10000);
        }
        plan(x, 300, 1100, 300000, (1 << 30) - 1);
        plan(x, 299, 1100, 290000, (1 << 29) - 1);
        plan(x, 10, 1100, 10000, 1);
        plan(x, 9, 1100, 0, 0);
        x.river(0, 0, 3000);
        x.go(1);
        plan(x, 300, 3000, 10000, 1);
        plan(x, 299, 3000, 0, 0);
    }

    private static void aPlanChangesNothing() {
        DikeHands x = new DikeHands();
        x.rod(4, 1, 9);
        x.rod(6, 2, 8);
        String before = Due.stateOf(x);
        x.saved(300, 3000);
        x.chosen(17, 1100);
        DUE.same("the state after plans", Due.stateOf(x), before);
    }

    private static void likeAllHeapsTried() {
        DikeHands x = new DikeHands();
        x.law(0, 90000, 1);
        x.house(0, 500, 20);
        x.go(52);
        int[] spots = new int[10];
        int[] losses = new int[10];
        for (int i = 0; i < spots.length; i++) {
            spots[i] = 3 * i + next(3);
            losses[i] = next(4) * (1 + next(3));
            x.rod(spots[i], next(3), losses[i]);
            if (next(3) == 0) {
                x.work(0, spots[i], 1 + next(12), 0);
            }
        }
        for (int i = 0; i < 12; i++) {
            int n = next(3) == 0 ? next(301) : next(40);
            int l = 1000 + next(next(2) == 0 ? 120 : 700);
            tryAllHeaps(x, spots, losses, n, l);
        }
    }

    private static void tryAllHeaps(DikeHands x, int[] spots, int[] losses, int n, int l) {
        int bestSum = 0;
        int bestHeap = 0;
        int[] need = new int[spots.length];
        for (int i = 0; i < spots.length; i++) {
            need[i] = x.bank(spots[i], 3, l);
        }
        for (int some = 0; some < 1 << spots.length; some++) {
            int days = 0;
            int sum = 0;
            int heap = 0;
            boolean below = true;
            for (int i = 0; i < spots.length; i++) {
                if ((some >> i & 1) != 0) {
                    below &= need[i] > 0;
                    days += need[i];
                    sum += losses[i];
                    heap |= 1 << spots[i];
                }
            }
            if (below && days <= n && (sum > bestSum || sum == bestSum && heap < bestHeap)) {
                bestSum = sum;
                bestHeap = heap;
            }
        }
        plan(x, n, l, bestSum, bestHeap);
    }

    private static int next(int bound) {
        seed = seed * 6364136223846793005L + 1442695040888963407L;
        return (int) ((seed >>> 33) % bound);
    }
}
