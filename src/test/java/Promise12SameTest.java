/** Promise 12: same. */
public final class Promise12SameTest {
    public static void main(String[] args) {
        Check.sentence("Whether of both the same ELEMENTS", Promise12SameTest::byWhatIsSeen);
        Check.sentence("Whether of both the same ELEMENTS", Promise12SameTest::aPartIsNotTheSame);
        Check.sentence("Whether of both the same ELEMENTS", Promise12SameTest::nothingSeen);
        Check.sentence("(by their numbers as OPERATIONS)", Promise12SameTest::byNumbersNotValues);
        Check.sentence("in the same order", Promise12SameTest::whoeverHoldsTheSame);
        Check.sentence("up to 160", Promise12SameTest::fullObject);
        Check.sentence("there is no such REPLICA", Promise12SameTest::noSuchReplica);
        Check.end();
    }

    private static void byWhatIsSeen() {
        WovenRow x = new WovenRow();
        x.insert(0, -1, 1L);
        both("one holds it, one does not", false, x, 0, 1);
        x.delete(0, 0);
        both("nothing is seen of either", true, x, 0, 1);
        x.give(1, 0);
        both("deleted for one alone", false, x, 0, 1);
        x.delete(1, 0);
        both("deleted by each on its own", true, x, 0, 1);
    }

    private static void aPartIsNotTheSame() {
        WovenRow x = new WovenRow();
        x.insert(0, -1, 1L);
        x.insert(0, 0, 2L);
        x.give(1, 0);
        both("the front part", false, x, 0, 1);
        x.give(1, 1);
        both("all of it", true, x, 0, 1);
        x.delete(1, 0);
        both("the back part", false, x, 0, 1);
    }

    private static void nothingSeen() {
        WovenRow x = Rows.small();
        both("both hold nothing", true, x, 2, 3);
        both("one holds nothing", false, x, 0, 2);
        both("with itself, holding nothing", true, x, 2, 2);
        x.delete(0, 0);
        both("all deleted, and nothing held", true, x, 0, 2);
        x.give(3, 0);
        x.delete(3, 0);
        both("all deleted, of other elements", true, x, 0, 3);
    }

    private static void byNumbersNotValues() {
        WovenRow x = new WovenRow();
        x.insert(0, -1, 5L);
        x.insert(1, -1, 5L);
        both("equal values of other elements", false, x, 0, 1);
        both("with itself", true, x, 0, 0);
    }

    private static void whoeverHoldsTheSame() {
        WovenRow x = new WovenRow();
        for (int k = 0; k < 40; k++) {
            x.insert(k % Rows.REPLICAS, k < 4 ? -1 : k - 4, k);
        }
        x.delete(2, 10);
        both("before they tell", false, x, 2, 3);
        for (int r = 0; r < Rows.REPLICAS; r++) {
            for (int s = 0; s < Rows.REPLICAS; s++) {
                x.tell(r, s);
            }
        }
        x.tell(0, 3);
        for (int r = 0; r < Rows.REPLICAS; r++) {
            int replica = r;
            both("all told", true, x, r, 3);
            Check.due("count(" + r + ", 0)", 41, () -> x.count(replica, 0));
        }
    }

    private static void fullObject() {
        WovenRow x = Rows.full();
        for (int k = 1; k < Rows.MOST_OPERATIONS; k++) {
            x.give(1, k);
        }
        both("all but the last in the row", false, x, 0, 1);
        x.give(1, 0);
        both("all 160", true, x, 0, 1);
        WovenRow first = Rows.atTheFront(159);
        first.tell(1, 0);
        first.insert(0, -1, 5L);
        both("all but the first in the row", false, first, 0, 1);
    }

    private static void noSuchReplica() {
        WovenRow x = Rows.small();
        for (int r : Rows.NO_REPLICAS) {
            Check.argument("same of replica " + r, () -> x.same(r, 0));
            Check.argument("same with replica " + r, () -> x.same(0, r));
            Check.argument("same among replicas " + r, () -> x.same(r, r));
        }
    }

    private static void both(String when, boolean want, WovenRow x, int r, int s) {
        Check.due(when + ": same(" + r + ", " + s + ")", want, () -> x.same(r, s));
        Check.due(when + ": same(" + s + ", " + r + ")", want, () -> x.same(s, r));
    }
}
