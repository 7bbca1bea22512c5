/** Promise 3: delete. */
public final class Promise03DeleteTest {
    public static void main(String[] args) {
        Check.sentence("It makes a DELETE", Promise03DeleteTest::hidesForItsHoldersAlone);
        Check.sentence("It makes a DELETE", Promise03DeleteTest::whatIsBehindStays);
        Check.sentence("its number", Promise03DeleteTest::itsNumber);
        Check.sentence("one that is deleted may be so again", Promise03DeleteTest::deletesAgain);
        Check.sentence("it does not HOLD such an ELEMENT", Promise03DeleteTest::notHeld);
        Check.sentence("it does not HOLD such an ELEMENT", Promise03DeleteTest::noElementEver);
        Check.sentence("it does not HOLD such an ELEMENT", Promise03DeleteTest::deleteOfADelete);
        Check.sentence("there are 160 OPERATIONS (insert, delete)", Promise03DeleteTest::fullObject);
        Check.end();
    }

    private static void hidesForItsHoldersAlone() {
        WovenRow x = new WovenRow();
        x.insert(0, -1, 1L);
        x.insert(0, 0, 2L);
        x.tell(1, 0);
        x.delete(1, 0);
        Check.row("holds the delete", x, 1, 1);
        Check.row("does not hold it yet", x, 0, 0, 1);
        Check.due("stamp of the delete", 3, () -> x.stamp(2));
        Check.due("holds(1, 2)", true, () -> x.holds(1, 2));
        Check.due("holds(0, 2)", false, () -> x.holds(0, 2));
        x.give(0, 2);
        Check.row("got it", x, 0, 1);
    }

    private static void whatIsBehindStays() {
        WovenRow x = new WovenRow();
        x.insert(0, -1, 1L);
        x.insert(0, 0, 2L);
        x.insert(0, 1, 3L);
        x.delete(0, 0);
        x.delete(0, 1);
        Check.row("only the deleted ones are hidden", x, 0, 2);
        Check.due("the hidden ones keep their places", 2, () -> x.place(0, 2));
        x.delete(0, 2);
        Check.row("the last one that was seen", x, 0);
    }

    private static void itsNumber() {
        WovenRow x = Rows.small();
        Check.due("delete(1, 3)", 4, () -> x.delete(1, 3));
        Check.due("delete(1, 0)", 5, () -> x.delete(1, 0));
        Check.due("insert(1, -1, 5)", 6, () -> x.insert(1, -1, 5L));
        Check.due("delete(1, 6)", 7, () -> x.delete(1, 6));
    }

    private static void deletesAgain() {
        WovenRow x = new WovenRow();
        x.insert(0, -1, 1L);
        x.give(1, 0);
        Check.due("first delete", 1, () -> x.delete(0, 0));
        Check.due("delete again", 2, () -> x.delete(0, 0));
        Check.due("and again", 3, () -> x.delete(0, 0));
        Check.counts("deleted three times", x, 0, 4, 1, 0, 4);
        Check.due("by one that knows of none of them", 4, () -> x.delete(1, 0));
        x.tell(1, 0);
        Check.due("by one that knows of all", 5, () -> x.delete(1, 0));
        Check.row("still deleted", x, 1);
        x.give(2, 0);
        x.give(2, 3);
        Check.row("any one delete is enough", x, 2);
    }

    private static void notHeld() {
        WovenRow x = Rows.small();
        Check.state("another's", () -> x.delete(0, 3));
        Check.state("one of which it holds the one before", () -> x.delete(1, 1));
        Check.state("of one that holds nothing", () -> x.delete(2, 0));
        x.give(2, 0);
        Check.due("what it got", 4, () -> x.delete(2, 0));
    }

    private static void noElementEver() {
        WovenRow x = Rows.small();
        for (int e : Rows.NO_SMALL_OPERATIONS) {
            Check.state("delete of " + e, () -> x.delete(0, e));
        }
        Check.due("the next number after refusals", 4, () -> x.delete(0, 0));
    }

    private static void deleteOfADelete() {
        WovenRow x = Rows.small();
        Check.state("of a delete that it made", () -> x.delete(0, 2));
        Check.state("of a delete that it does not hold", () -> x.delete(1, 2));
        x.tell(3, 0);
        Check.state("of a delete that it got", () -> x.delete(3, 2));
    }

    private static void fullObject() {
        WovenRow x = Rows.full();
        Check.index("delete in a full object", () -> x.delete(0, 0));
        Check.index("delete of one that holds nothing", () -> x.delete(1, 0));
        Check.index("full comes before a wrong element", () -> x.delete(0, -1));
        Check.argument("no replica comes before full", () -> x.delete(4, 0));
        Check.counts("full", x, 0, 160, 160, 160, 160);
        WovenRow again = Rows.atTheFront(159);
        again.delete(0, 0);
        Check.index("one that is deleted, full", () -> again.delete(0, 0));
    }
}
