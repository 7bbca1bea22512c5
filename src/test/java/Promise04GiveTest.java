/** Promise 4: give. */
public final class Promise04GiveTest {
    public static void main(String[] args) {
        Check.sentence("A REPLICA gets OPERATION k", Promise04GiveTest::getsOneOperation);
        Check.sentence("A REPLICA gets OPERATION k", Promise04GiveTest::ordersByStampNotByArrival);
        Check.sentence("A REPLICA gets OPERATION k", Promise04GiveTest::raisesTheCount);
        Check.sentence("(it may HOLD it)", Promise04GiveTest::maybeHeld);
        Check.sentence("it does not HOLD the ELEMENT that it speaks of", Promise04GiveTest::notHeld);
        Check.sentence("the ELEMENT that it speaks of", Promise04GiveTest::theFrontIsNoElement);
        Check.sentence("there is no OPERATION of that number", Promise04GiveTest::noSuchNumber);
        Check.sentence("there are 160 OPERATIONS (insert, delete)", Promise04GiveTest::fullObject);
        Check.end();
    }

    private static void getsOneOperation() {
        WovenRow x = new WovenRow();
        x.insert(0, -1, 1L);
        x.insert(0, 0, 2L);
        x.delete(0, 0);
        x.give(3, 0);
        Check.row("got 0", x, 3, 0);
        x.give(3, 2);
        Check.row("got the delete of 0", x, 3);
        x.give(3, 1);
        Check.row("got 1 behind the deleted 0", x, 3, 1);
        Check.due("holds all", 3, () -> x.count(3, 0));
        Check.due("another holds none", 0, () -> x.count(2, 0));
    }

    private static void ordersByStampNotByArrival() {
        WovenRow x = new WovenRow();
        x.insert(0, -1, 1L);
        x.insert(0, -1, 2L);
        x.insert(1, -1, 3L);
        x.give(2, 1);
        x.give(2, 2);
        x.give(2, 0);
        Check.row("of the greatest stamp first", x, 2, 1, 2, 0);
    }

    private static void raisesTheCount() {
        WovenRow x = Rows.atTheFront(5);
        x.insert(1, -1, 5L);
        x.give(1, 4);
        Check.due("greatest count", 5, () -> x.count(1, 3));
        x.give(1, 2);
        Check.due("a lesser count does not lower it", 5, () -> x.count(1, 3));
        x.insert(1, -1, 6L);
        Check.due("one more than what it got", 6, () -> x.stamp(6));
    }

    private static void maybeHeld() {
        Twins.alike("give of an insert at the front that it made", Rows::small, x -> x.give(0, 0));
        Twins.alike("give of an insert behind one that it made", Rows::small, x -> x.give(0, 1));
        Twins.alike("give of a delete that it made", Rows::small, x -> x.give(0, 2));
        Twins.alike("give of what it got", Rows::small, x -> x.give(1, 0));
        Twins.alike("give of a delete that it made, full", Rows::smallGrownFull, x -> x.give(0, 2));
        Twins.alike("give of the last of 160", Rows::smallGrownFull, x -> x.give(1, 159));
    }

    private static void notHeld() {
        WovenRow x = Rows.small();
        Check.state("an insert behind what it does not hold", () -> x.give(2, 1));
        Check.state("a delete of what it does not hold", () -> x.give(1, 2));
        Check.state("a delete, to one that holds nothing", () -> x.give(3, 2));
        x.give(3, 0);
        Check.state("a delete, to one that holds another", () -> x.give(3, 2));
        Check.allows("the insert, now that it holds 0", () -> x.give(3, 1));
        Check.allows("the delete, now that it holds 1", () -> x.give(3, 2));
        Check.row("all of them", x, 3, 0);
    }

    private static void theFrontIsNoElement() {
        WovenRow x = Rows.small();
        Check.allows("an insert at the front, to one that holds nothing", () -> x.give(2, 0));
        Check.allows("another's insert at the front", () -> x.give(3, 3));
        Check.row("the one", x, 2, 0);
        Check.row("the other", x, 3, 3);
    }

    private static void noSuchNumber() {
        WovenRow x = Rows.small();
        for (int k : Rows.NO_SMALL_OPERATIONS) {
            Check.index("give of " + k, () -> x.give(0, k));
        }
        Check.allows("give of the last", () -> x.give(0, 3));
    }

    private static void fullObject() {
        WovenRow x = Rows.full();
        Check.allows("the first of 160", () -> x.give(1, 0));
        Check.allows("the last of 160", () -> x.give(1, 159));
        Check.index("behind the last of 160", () -> x.give(1, 160));
        Check.counts("two of 160", x, 1, 2, 2, 2, 160);
        Check.row("two of 160", x, 1, 159, 0);
    }
}
