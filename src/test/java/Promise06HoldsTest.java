/** Promise 6: holds. */
public final class Promise06HoldsTest {
    public static void main(String[] args) {
        madeAndGot();
        refusals();
        Check.end();
    }

    private static void madeAndGot() {
        WovenRow x = Rows.small();
        boolean[][] want = {
            {true, true, true, false},
            {true, false, false, true},
            {false, false, false, false},
            {false, false, false, false},
        };
        for (int r = 0; r < Rows.REPLICAS; r++) {
            for (int k = 0; k < Rows.SMALL_OPERATIONS; k++) {
                int replica = r;
                int op = k;
                Check.due("holds(" + r + ", " + k + ")", want[r][k], () -> x.holds(replica, op));
            }
        }
        x.give(3, 3);
        Check.due("holds(3, 3) after give", true, () -> x.holds(3, 3));
        x.tell(2, 0);
        Check.due("holds(2, 2) after tell", true, () -> x.holds(2, 2));
        Check.due("a deleted one is held", true, () -> x.holds(0, 1));
    }

    private static void refusals() {
        WovenRow x = Rows.small();
        for (int r : Rows.NO_REPLICAS) {
            Check.argument("holds of replica " + r, () -> x.holds(r, 0));
            Check.argument("holds of replica " + r + ", no operation", () -> x.holds(r, 4));
        }
        int[] none = {-1, 4, 159, 160, Integer.MIN_VALUE, Integer.MAX_VALUE};
        for (int k : none) {
            Check.index("holds(0, " + k + ")", () -> x.holds(0, k));
        }
        WovenRow full = Rows.full();
        Check.due("the last of 160", true, () -> full.holds(0, 159));
        Check.index("behind the last of 160", () -> full.holds(0, 160));
    }
}
