/** Promise 12: same. */
public final class Promise12SameTest {
    public static void main(String[] args) {
        byWhatIsSeen();
        byNumbersNotValues();
        aPartIsNotTheSame();
        whoeverHoldsTheSame();
        refusals();
        Check.end();
    }

    private static void byWhatIsSeen() {
        WovenRow x = new WovenRow();
        x.insert(0, -1, 1L);
        Check.due("one holds it, one does not", false, () -> x.same(0, 1));
        x.delete(0, 0);
        Check.due("nothing is seen of either", true, () -> x.same(0, 1));
        x.give(1, 0);
        Check.due("deleted for one alone", false, () -> x.same(1, 0));
        x.delete(1, 0);
        Check.due("deleted by each on its own", true, () -> x.same(1, 0));
    }

    private static void byNumbersNotValues() {
        WovenRow x = new WovenRow();
        x.insert(0, -1, 5L);
        x.insert(1, -1, 5L);
        Check.due("equal values of other elements", false, () -> x.same(0, 1));
        Check.due("with itself", true, () -> x.same(0, 0));
    }

    private static void aPartIsNotTheSame() {
        WovenRow x = new WovenRow();
        x.insert(0, -1, 1L);
        x.insert(0, 0, 2L);
        x.give(1, 0);
        Check.due("the front part", false, () -> x.same(0, 1));
        Check.due("the front part, turned", false, () -> x.same(1, 0));
        x.give(1, 1);
        Check.due("all of it", true, () -> x.same(0, 1));
    }

    private static void whoeverHoldsTheSame() {
        WovenRow x = new WovenRow();
        for (int k = 0; k < 40; k++) {
            x.insert(k % Rows.REPLICAS, k < 4 ? -1 : k - 4, k);
        }
        x.delete(2, 10);
        Check.due("before they tell", false, () -> x.same(2, 3));
        for (int r = 0; r < Rows.REPLICAS; r++) {
            for (int s = 0; s < Rows.REPLICAS; s++) {
                x.tell(r, s);
            }
        }
        x.tell(0, 3);
        for (int r = 0; r < Rows.REPLICAS; r++) {
            int replica = r;
            Check.due("same(" + r + ", 3)", true, () -> x.same(replica, 3));
            Check.due("count(" + r + ", 0)", 41, () -> x.count(replica, 0));
        }
    }

    private static void refusals() {
        WovenRow x = Rows.small();
        for (int r : Rows.NO_REPLICAS) {
            Check.argument("same of replica " + r, () -> x.same(r, 0));
            Check.argument("same with replica " + r, () -> x.same(0, r));
            Check.argument("same among replicas " + r, () -> x.same(r, r));
        }
    }
}
