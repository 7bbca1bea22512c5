/** Promise 6: holds. */
public final class Promise06HoldsTest {
    public static void main(String[] args) {
        Check.sentence("Whether it HOLDS OPERATION k", Promise06HoldsTest::madeAndGot);
        Check.sentence("Whether it HOLDS OPERATION k", Promise06HoldsTest::firstAndLastOf160);
        Check.sentence("there is no such REPLICA", Promise06HoldsTest::noSuchReplica);
        Check.sentence("there is no OPERATION of that number", Promise06HoldsTest::noSuchNumber);
        Check.end();
    }

    private static void madeAndGot() {
        WovenRow x = Rows.small();
        boolean[][] want = {
            {true, true, true, false},
            {true, false, false, true},
            {false, false, false, false},
            {false, false, false, false},
        };
        for (int r = 0; r < Rows.REPLICAS; r++) {
            for (int k = 0; k < Rows.SMALL_OPERATIONS; k++) {
                int replica = r;
                int op = k;
                Check.due("holds(" + r + ", " + k + ")", want[r][k], () -> x.holds(replica, op));
            }
        }
        x.give(3, 3);
        Check.due("holds(3, 3) after give", true, () -> x.holds(3, 3));
        x.tell(2, 0);
        Check.due("holds(2, 2) after tell", true, () -> x.holds(2, 2));
        Check.due("a deleted one is held", true, () -> x.holds(0, 1));
    }

    private static void firstAndLastOf160() {
        WovenRow x = Rows.full();
        for (int k : new int[] {0, 159}) {
            Check.due("the maker, of " + k, true, () -> x.holds(0, k));
            Check.due("another, of " + k, false, () -> x.holds(3, k));
        }
    }

    private static void noSuchReplica() {
        WovenRow x = Rows.small();
        for (int r : Rows.NO_REPLICAS) {
            Check.argument("holds of replica " + r, () -> x.holds(r, 0));
            Check.argument("holds of replica " + r + ", no operation", () -> x.holds(r, 4));
        }
    }

    private static void noSuchNumber() {
        WovenRow x = Rows.small();
        for (int k : Rows.NO_SMALL_OPERATIONS) {
            Check.index("holds(0, " + k + ")", () -> x.holds(0, k));
        }
        WovenRow full = Rows.full();
        for (int k : Rows.NO_OPERATIONS_EVER) {
            Check.index("full: holds(0, " + k + ")", () -> full.holds(0, k));
        }
    }
}
