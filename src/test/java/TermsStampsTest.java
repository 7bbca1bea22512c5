/** Terms: the stamps, and which of two is greater. */
public final class TermsStampsTest {
    public static void main(String[] args) {
        Check.sentence("(1 if it holds none)", TermsStampsTest::oneIfItHoldsNone);
        Check.sentence("one more than the greatest count that its REPLICA holds then",
                TermsStampsTest::oneMoreThanTheGreatest);
        Check.sentence("holds then", TermsStampsTest::isNeverChanged);
        Check.sentence("A STAMP is greater by the count", TermsStampsTest::greaterByTheCount);
        Check.sentence("then by the REPLICA", TermsStampsTest::thenByTheReplica);
        Check.end();
    }

    private static void oneIfItHoldsNone() {
        for (int r = 0; r < Rows.REPLICAS; r++) {
            WovenRow x = new WovenRow();
            int replica = r;
            Check.due("greatest count of " + r, 0, () -> x.count(replica, 3));
            x.insert(r, -1, 5L);
            Check.due("the very first, of " + r, 1, () -> x.stamp(0));
        }
        WovenRow late = Rows.atTheFront(159);
        late.insert(2, -1, 5L);
        Check.due("the last of 160, of one that holds none", 1, () -> late.stamp(159));
        WovenRow told = Rows.small();
        told.tell(2, 3);
        told.insert(2, -1, 5L);
        Check.due("of one that was told nothing", 1, () -> told.stamp(4));
    }

    private static void oneMoreThanTheGreatest() {
        WovenRow x = Rows.atTheFront(5);
        x.give(1, 3);
        x.insert(1, -1, 5L);
        Check.due("one more than the single one it got", 5, () -> x.stamp(5));
        x.give(1, 0);
        x.delete(1, 0);
        Check.due("not than the latest it got", 6, () -> x.stamp(6));
        x.insert(1, -1, 5L);
        Check.due("a delete's count is one, too", 7, () -> x.stamp(7));
        x.give(2, 0);
        x.give(2, 6);
        x.insert(2, -1, 5L);
        Check.due("a delete's that it got, too", 7, () -> x.stamp(8));
        x.insert(0, -1, 5L);
        Check.due("not than what others hold", 6, () -> x.stamp(9));
        x.tell(0, 1);
        x.insert(0, -1, 5L);
        Check.due("one more than what it was told", 8, () -> x.stamp(10));
        WovenRow full = Rows.full();
        Check.due("the greatest there can be", 160, () -> full.stamp(159));
    }

    private static void isNeverChanged() {
        WovenRow x = new WovenRow();
        x.insert(1, -1, 5L);
        for (int k = 1; k < 4; k++) {
            x.insert(0, -1, 5L);
        }
        x.tell(1, 0);
        x.tell(0, 1);
        x.delete(1, 0);
        int[] want = {1, 1, 2, 3, 4};
        for (int k = 0; k < want.length; k++) {
            int op = k;
            Check.due("stamp(" + k + ")", want[k], () -> x.stamp(op));
        }
    }

    private static void greaterByTheCount() {
        WovenRow x = new WovenRow();
        x.insert(3, -1, 1L);
        x.insert(0, -1, 2L);
        x.insert(0, -1, 3L);
        x.tell(1, 3);
        x.tell(1, 0);
        Check.row("count 2 of replica 0 before count 1 of replica 3", x, 1, 2, 0, 1);
        WovenRow late = new WovenRow();
        late.insert(0, -1, 1L);
        late.insert(0, -1, 2L);
        late.insert(3, -1, 3L);
        late.tell(3, 0);
        Check.row("made later, but of a lesser count", late, 3, 1, 2, 0);
    }

    private static void thenByTheReplica() {
        for (int r = 0; r < Rows.REPLICAS; r++) {
            for (int s = 0; s < r; s++) {
                equalCounts(r, s);
                equalCounts(s, r);
            }
        }
    }

    private static void equalCounts(int first, int second) {
        WovenRow front = new WovenRow();
        front.insert(first, -1, 1L);
        front.insert(second, -1, 2L);
        front.tell(first, second);
        int greater = first > second ? 0 : 1;
        String who = "equal counts of " + first + " and " + second;
        Check.row(who + ", at the front", front, first, greater, 1 - greater);

        WovenRow behind = new WovenRow();
        behind.insert(0, -1, 1L);
        behind.tell(first, 0);
        behind.tell(second, 0);
        behind.insert(first, 0, 2L);
        behind.insert(second, 0, 3L);
        behind.tell(second, first);
        Check.row(who + ", behind an element", behind, second, 0, greater + 1, 2 - greater);
    }
}
