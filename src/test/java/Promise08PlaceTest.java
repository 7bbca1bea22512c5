/** Promise 8: place. */
public final class Promise08PlaceTest {
    public static void main(String[] args) {
        Check.sentence("Which one it is in THE ROW of r", Promise08PlaceTest::amongItsOwn);
        Check.sentence("SEEN or not", Promise08PlaceTest::seenOrNot);
        Check.sentence("(0 first)", Promise08PlaceTest::zeroFirst);
        Check.sentence("OPERATION e is no ELEMENT", Promise08PlaceTest::noElement);
        Check.sentence("or it does not HOLD it", Promise08PlaceTest::notHeld);
        Check.sentence("there is no such REPLICA", Promise08PlaceTest::noSuchReplica);
        Check.sentence("there is no OPERATION of that number", Promise08PlaceTest::noSuchNumber);
        Check.end();
    }

    private static void amongItsOwn() {
        WovenRow x = new WovenRow();
        x.insert(0, -1, 1L);
        x.insert(1, -1, 2L);
        x.insert(2, -1, 3L);
        Check.due("alone in its row", 0, () -> x.place(0, 0));
        x.give(0, 2);
        Check.due("behind the one that it got", 1, () -> x.place(0, 0));
        x.give(0, 1);
        Check.due("behind both", 2, () -> x.place(0, 0));
        Check.due("between them", 1, () -> x.place(0, 1));
        Check.due("in another's row", 0, () -> x.place(1, 1));
    }

    private static void seenOrNot() {
        WovenRow x = Rows.atTheFront(4);
        x.delete(0, 3);
        x.delete(0, 1);
        int[] want = {3, 2, 1, 0};
        for (int k = 0; k < 4; k++) {
            int e = k;
            Check.due("place(0, " + k + ")", want[k], () -> x.place(0, e));
        }
        x.delete(0, 0);
        x.delete(0, 2);
        Check.due("none is seen: the first", 0, () -> x.place(0, 3));
        Check.due("none is seen: the last", 3, () -> x.place(0, 0));
    }

    private static void zeroFirst() {
        WovenRow x = Rows.full();
        Check.due("the first of 160", 0, () -> x.place(0, 159));
        Check.due("the second of 160", 1, () -> x.place(0, 158));
        Check.due("the last of 160", 159, () -> x.place(0, 0));
    }

    private static void noElement() {
        WovenRow x = Rows.small();
        Check.state("a delete that it holds", () -> x.place(0, 2));
        Check.state("a delete that it does not hold", () -> x.place(1, 2));
        WovenRow full = Rows.atTheFront(159);
        full.delete(0, 0);
        Check.state("the last of 160, a delete", () -> full.place(0, 159));
    }

    private static void notHeld() {
        WovenRow x = Rows.small();
        Check.state("another's", () -> x.place(0, 3));
        Check.state("behind one that it holds", () -> x.place(1, 1));
        Check.state("in an empty row", () -> x.place(2, 0));
        x.give(2, 0);
        Check.due("now that it holds it", 0, () -> x.place(2, 0));
    }

    private static void noSuchReplica() {
        WovenRow x = Rows.small();
        for (int r : Rows.NO_REPLICAS) {
            Check.argument("place of replica " + r, () -> x.place(r, 0));
            Check.argument("place of replica " + r + ", a delete", () -> x.place(r, 2));
            Check.argument("place of replica " + r + ", no operation", () -> x.place(r, 4));
        }
    }

    private static void noSuchNumber() {
        WovenRow x = Rows.small();
        for (int e : Rows.NO_SMALL_OPERATIONS) {
            Check.index("place(0, " + e + ")", () -> x.place(0, e));
        }
        WovenRow full = Rows.full();
        for (int e : Rows.NO_OPERATIONS_EVER) {
            Check.index("full: place(0, " + e + ")", () -> full.place(0, e));
        }
    }
}
