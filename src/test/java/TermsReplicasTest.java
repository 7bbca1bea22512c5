/** Terms: the replicas, and that each method refuses what is none. */
public final class TermsReplicasTest {
    public static void main(String[] args) {
        Check.sentence("REPLICAS 0..3", TermsReplicasTest::fromTheFirstToTheLast);
        Check.sentence("IllegalArgumentException: there is no such REPLICA",
                TermsReplicasTest::tooSmallAndTooLarge);
        Check.sentence("Each REPLICA HOLDS those that it made, and those that it got",
                TermsReplicasTest::madeAndGot);
        Check.end();
    }

    private static void fromTheFirstToTheLast() {
        for (int r = 0; r < Rows.REPLICAS; r++) {
            allMethodsOf(r, (r + 1) % Rows.REPLICAS);
        }
    }

    private static void allMethodsOf(int r, int other) {
        WovenRow x = new WovenRow();
        String who = "replica " + r + ": ";
        Check.due(who + "insert", 0, () -> x.insert(r, -1, 5L));
        Check.due(who + "delete", 1, () -> x.delete(r, 0));
        Check.allows(who + "give", () -> x.give(r, 1));
        Check.due(who + "tell", 0, () -> x.tell(r, other));
        Check.due(who + "is told", 2, () -> x.tell(other, r));
        Check.due(who + "holds", true, () -> x.holds(r, 1));
        Check.due(who + "at", -1, () -> x.at(r, 0));
        Check.due(who + "place", 0, () -> x.place(r, 0));
        Check.counts(who, x, r, 2, 1, 0, 2);
        Check.due(who + "same", true, () -> x.same(r, other));
        Check.due(who + "same, turned", true, () -> x.same(other, r));
    }

    private static void tooSmallAndTooLarge() {
        for (int r : Rows.NO_REPLICAS) {
            WovenRow x = Rows.small();
            Check.argument("insert, replica " + r, () -> x.insert(r, -1, 5L));
            Check.argument("delete, replica " + r, () -> x.delete(r, 0));
            Check.argument("give, replica " + r, () -> x.give(r, 0));
            Check.argument("tell, first replica " + r, () -> x.tell(r, 0));
            Check.argument("tell, second replica " + r, () -> x.tell(0, r));
            Check.argument("tell, both replicas " + r, () -> x.tell(r, r));
            Check.argument("holds, replica " + r, () -> x.holds(r, 0));
            Check.argument("at, replica " + r, () -> x.at(r, 0));
            Check.argument("place, replica " + r, () -> x.place(r, 0));
            Check.argument("count, replica " + r, () -> x.count(r, 0));
            Check.argument("same, first replica " + r, () -> x.same(r, 0));
            Check.argument("same, second replica " + r, () -> x.same(0, r));
            Check.argument("same, both replicas " + r, () -> x.same(r, r));
        }
    }

    private static void madeAndGot() {
        WovenRow x = new WovenRow();
        x.insert(2, -1, 1L);
        x.delete(2, 0);
        x.give(0, 0);
        x.tell(3, 2);
        boolean[][] want = {{true, false}, {false, false}, {true, true}, {true, true}};
        for (int r = 0; r < Rows.REPLICAS; r++) {
            for (int k = 0; k < 2; k++) {
                int replica = r;
                int op = k;
                Check.due("holds(" + r + ", " + k + ")", want[r][k], () -> x.holds(replica, op));
            }
        }
    }
}
