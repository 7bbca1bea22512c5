/** Promise 2: insert. */
public final class Promise02InsertTest {
    public static void main(String[] args) {
        Check.sentence("makes an INSERT behind an ELEMENT", Promise02InsertTest::behindAnElement);
        Check.sentence("behind an ELEMENT", Promise02InsertTest::behindADeletedElement);
        Check.sentence("behind an ELEMENT", Promise02InsertTest::aChainOf160);
        Check.sentence("(-1: at the front)", Promise02InsertTest::atTheFront);
        Check.sentence("of v", Promise02InsertTest::ofEveryNumber);
        Check.sentence("its number", Promise02InsertTest::itsNumber);
        Check.sentence("it does not HOLD such an ELEMENT", Promise02InsertTest::notHeld);
        Check.sentence("it does not HOLD such an ELEMENT", Promise02InsertTest::notMadeYet);
        Check.sentence("what is below -1, or a DELETE, is none", Promise02InsertTest::belowTheFront);
        Check.sentence("or a DELETE, is none", Promise02InsertTest::behindADelete);
        Check.sentence("there are 160 OPERATIONS (insert, delete)", Promise02InsertTest::fullObject);
        Check.end();
    }

    private static void behindAnElement() {
        WovenRow x = new WovenRow();
        x.insert(0, -1, 1L);
        x.tell(1, 0);
        x.tell(2, 0);
        x.insert(2, 0, 2L);
        x.insert(2, 1, 3L);
        x.insert(1, 0, 4L);
        x.insert(1, 3, 5L);
        x.tell(0, 1);
        x.tell(0, 2);
        Check.row("each with all that is behind it", x, 0, 0, 1, 2, 3, 4);
        x.insert(1, 0, 6L);
        x.tell(0, 1);
        Check.row("the late one is of the greatest count", x, 0, 0, 5, 1, 2, 3, 4);
    }

    private static void behindADeletedElement() {
        WovenRow x = new WovenRow();
        x.insert(0, -1, 1L);
        x.insert(0, 0, 2L);
        x.delete(0, 0);
        Check.due("insert behind a deleted one", 3, () -> x.insert(0, 0, 3L));
        Check.row("behind a deleted one", x, 0, 3, 1);
        Check.due("place(0, 3)", 1, () -> x.place(0, 3));
    }

    private static void aChainOf160() {
        WovenRow x = new WovenRow();
        for (int k = 0; k < Rows.MOST_OPERATIONS; k++) {
            x.insert(2, k - 1, k);
        }
        for (int k = 0; k < Rows.MOST_OPERATIONS; k++) {
            int nth = k;
            Check.due("chain: at(2, " + k + ")", k, () -> x.at(2, nth));
        }
        Check.due("chain: place of the last", 159, () -> x.place(2, 159));
    }

    private static void atTheFront() {
        WovenRow x = new WovenRow();
        Check.due("at the front of an empty row", 0, () -> x.insert(0, -1, 7L));
        Check.due("at the front of a row of one", 1, () -> x.insert(0, -1, 8L));
        Check.row("the newest first", x, 0, 1, 0);
        Check.due("at the front of a row without others", 2, () -> x.insert(3, -1, 9L));
        Check.row("its own alone", x, 3, 2);
        x.tell(3, 0);
        Check.row("of the greatest stamp first", x, 3, 1, 2, 0);
        WovenRow last = Rows.atTheFront(159);
        last.insert(0, -1, 5L);
        Check.due("the last of 160 at the front", 159, () -> last.at(0, 0));
    }

    private static void ofEveryNumber() {
        long[] numbers = {0L, -1L, 1L, Long.MIN_VALUE, Long.MAX_VALUE, 1L << 31, -(1L << 31) - 1, 1L};
        WovenRow x = new WovenRow();
        for (int k = 0; k < numbers.length; k++) {
            x.insert(0, -1, numbers[k]);
        }
        for (int k = 0; k < numbers.length; k++) {
            int e = k;
            Check.due("value(" + k + ")", numbers[k], () -> x.value(e));
        }
    }

    private static void itsNumber() {
        WovenRow x = new WovenRow();
        Check.due("insert(0, -1, 7)", 0, () -> x.insert(0, -1, 7L));
        Check.due("insert(0, -1, 8)", 1, () -> x.insert(0, -1, 8L));
        Check.due("insert(0, 0, 9)", 2, () -> x.insert(0, 0, 9L));
        Check.due("insert(0, 0, 7)", 3, () -> x.insert(0, 0, 7L));
        Check.due("insert(0, 2, 6)", 4, () -> x.insert(0, 2, 6L));
        Check.row("one replica", x, 0, 1, 0, 3, 2, 4);
        Check.row("the others got nothing", x, 1);
        Check.due("holds(0, 4)", true, () -> x.holds(0, 4));
        Check.due("holds(1, 4)", false, () -> x.holds(1, 4));
        Check.due("insert(3, -1, 5)", 5, () -> x.insert(3, -1, 5L));
    }

    private static void notHeld() {
        WovenRow x = Rows.small();
        Check.state("behind another's", () -> x.insert(0, 3, 1L));
        Check.state("behind one of which it holds the one before", () -> x.insert(1, 1, 1L));
        Check.state("of one that holds nothing", () -> x.insert(2, 0, 1L));
        x.give(2, 0);
        Check.due("behind what it got", 4, () -> x.insert(2, 0, 1L));
    }

    private static void notMadeYet() {
        WovenRow x = Rows.small();
        for (int behind : new int[] {4, 5, 159, 160, 161, Integer.MAX_VALUE}) {
            Check.state("behind " + behind, () -> x.insert(0, behind, 1L));
        }
        Check.due("the number that was none", 4, () -> x.insert(0, -1, 1L));
        Check.due("behind it", 5, () -> x.insert(0, 4, 1L));
    }

    private static void belowTheFront() {
        WovenRow x = Rows.small();
        for (int behind : new int[] {-2, -3, -160, Integer.MIN_VALUE}) {
            Check.state("behind " + behind, () -> x.insert(0, behind, 1L));
        }
        WovenRow empty = new WovenRow();
        Check.state("behind -2 in a new object", () -> empty.insert(0, -2, 1L));
    }

    private static void behindADelete() {
        WovenRow x = Rows.small();
        Check.state("behind a delete that it made", () -> x.insert(0, 2, 1L));
        Check.state("behind a delete that it does not hold", () -> x.insert(1, 2, 1L));
        x.tell(3, 0);
        Check.state("behind a delete that it got", () -> x.insert(3, 2, 1L));
    }

    private static void fullObject() {
        WovenRow x = Rows.full();
        Check.index("insert at the front", () -> x.insert(0, -1, 1L));
        Check.index("insert behind an element", () -> x.insert(0, 159, 1L));
        Check.index("insert of one that holds nothing", () -> x.insert(1, -1, 1L));
        Check.index("full comes before a wrong element", () -> x.insert(0, -2, 1L));
        Check.argument("no replica comes before full", () -> x.insert(4, -1, 1L));
        Check.counts("full", x, 0, 160, 160, 160, 160);
        Check.due("full: at(0, 0)", 159, () -> x.at(0, 0));
    }
}
