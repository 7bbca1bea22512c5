/** Terms: the operations, their numbers, and that there are at most 160. */
public final class TermsOperationsTest {
    public static void main(String[] args) {
        Check.sentence("OPERATIONS, numbered as they are made", TermsOperationsTest::numbered);
        Check.sentence("up to 160", TermsOperationsTest::upToTheLast);
        Check.sentence("IndexOutOfBoundsException: there are 160 OPERATIONS (insert, delete)",
                TermsOperationsTest::noneBehindTheLast);
        Check.sentence("there are 160 OPERATIONS (insert, delete)",
                TermsOperationsTest::theOthersGoOnWhenFull);
        Check.sentence("there is no OPERATION of that number (the others)",
                TermsOperationsTest::noSuchNumber);
        Check.sentence("which makes an ELEMENT of its own number; and DELETE (of an ELEMENT)",
                TermsOperationsTest::aDeleteIsNoElement);
        Check.end();
    }

    private static void numbered() {
        WovenRow x = new WovenRow();
        Check.due("the first, of replica 3", 0, () -> x.insert(3, -1, 1L));
        Check.due("a delete", 1, () -> x.delete(3, 0));
        Check.due("of another replica", 2, () -> x.insert(0, -1, 1L));
        Check.state("a refused insert", () -> x.insert(0, 1, 1L));
        Check.state("a refused delete", () -> x.delete(0, 0));
        Check.argument("of no replica", () -> x.insert(4, -1, 1L));
        Check.due("refused calls take no number", 3, () -> x.insert(1, -1, 1L));
        x.give(1, 0);
        x.tell(0, 3);
        Check.due("give and tell take no number", 4, () -> x.delete(1, 0));
    }

    private static void upToTheLast() {
        WovenRow inserts = Rows.atTheFront(159);
        Check.due("the last is an insert", 159, () -> inserts.insert(0, -1, 9L));
        WovenRow deletes = Rows.atTheFront(159);
        Check.due("the last is a delete", 159, () -> deletes.delete(0, 7));
        WovenRow others = Rows.atTheFront(159);
        Check.due("the last is another replica's", 159, () -> others.insert(3, -1, 9L));
        Check.due("and is held by it alone", 159, () -> others.count(0, 0));
        WovenRow oneElement = new WovenRow();
        oneElement.insert(1, -1, 5L);
        for (int k = 1; k < Rows.MOST_OPERATIONS; k++) {
            int want = k;
            Check.due("delete number " + k, want, () -> oneElement.delete(1, 0));
        }
        Check.counts("159 deletes of one element", oneElement, 1, 160, 1, 0, 160);
    }

    private static void noneBehindTheLast() {
        WovenRow room = Rows.atTheFront(158);
        Check.due("room for two", 158, () -> room.insert(1, -1, 9L));
        Check.due("room for one", 159, () -> room.delete(0, 0));
        for (int r = 0; r < Rows.REPLICAS; r++) {
            int replica = r;
            Check.index("no room, insert of " + r, () -> room.insert(replica, -1, 9L));
            Check.index("no room, delete of " + r, () -> room.delete(replica, 1));
        }
        Check.index("still no room", () -> room.insert(0, 157, 9L));
        WovenRow deletes = Rows.atTheFront(80);
        for (int k = 0; k < 80; k++) {
            deletes.delete(0, k);
        }
        Check.index("deletes take room, too", () -> deletes.insert(0, -1, 9L));
        Check.index("deletes take room, too: delete", () -> deletes.delete(0, 0));
    }

    private static void theOthersGoOnWhenFull() {
        WovenRow x = Rows.smallGrownFull();
        Check.allows("give of the last", () -> x.give(2, 159));
        Check.due("holds of the last", true, () -> x.holds(2, 159));
        Check.due("tell(2, 0)", 81, () -> x.tell(2, 0));
        Check.due("tell(2, 1)", 78, () -> x.tell(2, 1));
        Check.counts("full", x, 2, 160, 159, 158, 81);
        Check.due("at", 158, () -> x.at(2, 0));
        Check.due("the last that is seen", 0, () -> x.at(2, 157));
        Check.due("place", 2, () -> x.place(2, 159));
        Check.due("place of the last, a deleted one", 158, () -> x.place(2, 1));
        Check.due("value", 159L, () -> x.value(159));
        Check.due("stamp", 79, () -> x.stamp(159));
        Check.due("same", false, () -> x.same(2, 0));
    }

    private static void noSuchNumber() {
        numbersOf(new WovenRow(), 0);
        numbersOf(Rows.small(), Rows.SMALL_OPERATIONS);
        numbersOf(Rows.atTheFront(159), 159);
        numbersOf(Rows.full(), Rows.MOST_OPERATIONS);
    }

    private static void numbersOf(WovenRow x, int made) {
        for (int k : Rows.NO_OPERATIONS_EVER) {
            noSuchNumber(x, made, k);
        }
        noSuchNumber(x, made, made);
        if (made > 0) {
            Check.allows("give of the last of " + made, () -> x.give(1, made - 1));
            Check.due("holds of the last of " + made, true, () -> x.holds(1, made - 1));
            Check.allows("place of the last of " + made, () -> x.place(1, made - 1));
            Check.allows("value of the last of " + made, () -> x.value(made - 1));
            Check.allows("stamp of the last of " + made, () -> x.stamp(made - 1));
        }
    }

    private static void noSuchNumber(WovenRow x, int made, int k) {
        String which = " of number " + k + " where there are " + made;
        Check.index("give" + which, () -> x.give(1, k));
        Check.index("holds" + which, () -> x.holds(1, k));
        Check.index("place" + which, () -> x.place(1, k));
        Check.index("value" + which, () -> x.value(k));
        Check.index("stamp" + which, () -> x.stamp(k));
    }

    private static void aDeleteIsNoElement() {
        WovenRow x = Rows.small();
        Check.state("insert behind a delete", () -> x.insert(0, 2, 1L));
        Check.state("delete of a delete", () -> x.delete(0, 2));
        Check.state("place of a delete", () -> x.place(0, 2));
        Check.index("value of a delete", () -> x.value(2));
        Check.due("stamp of a delete", 3, () -> x.stamp(2));
        Check.due("holds of a delete", true, () -> x.holds(0, 2));
        Check.due("elements without the delete", 2, () -> x.count(0, 1));
    }
}
