/** Terms: which exception comes where a call is wrong in more than one way. */
public final class TermsExceptionOrderTest {
    public static void main(String[] args) {
        Check.sentence("In all methods: IllegalArgumentException", TermsExceptionOrderTest::noReplica);
        Check.sentence("then IndexOutOfBoundsException: there are 160 OPERATIONS",
                TermsExceptionOrderTest::fullBeforeState);
        Check.sentence("or there is no OPERATION of that number",
                TermsExceptionOrderTest::noNumberBeforeState);
        Check.sentence("then what is said below", TermsExceptionOrderTest::stateLast);
        Check.end();
    }

    private static void noReplica() {
        for (int r : Rows.NO_REPLICAS) {
            noReplica(Rows.small(), r, "with room");
            noReplica(Rows.smallGrownFull(), r, "full");
            noReplica(new WovenRow(), r, "new");
        }
    }

    /** What else is wrong: a number that is none, a delete, or what replica 1 does not hold. */
    private static void noReplica(WovenRow x, int r, String when) {
        int[] numbers = {-2, -1, 0, 1, 2, 160, Integer.MIN_VALUE, Integer.MAX_VALUE};
        for (int k : numbers) {
            String which = when + ", replica " + r + ", number " + k;
            Check.argument("insert " + which, () -> x.insert(r, k, 1L));
            Check.argument("delete " + which, () -> x.delete(r, k));
            Check.argument("give " + which, () -> x.give(r, k));
            Check.argument("holds " + which, () -> x.holds(r, k));
            Check.argument("at " + which, () -> x.at(r, k));
            Check.argument("place " + which, () -> x.place(r, k));
            Check.argument("count " + which, () -> x.count(r, k));
        }
    }

    private static void fullBeforeState() {
        WovenRow x = Rows.smallGrownFull();
        int[] noElementsOfOne = {-2, 1, 2, 160, Integer.MIN_VALUE, Integer.MAX_VALUE};
        for (int e : noElementsOfOne) {
            Check.index("insert behind " + e + ", full", () -> x.insert(1, e, 1L));
            Check.index("delete of " + e + ", full", () -> x.delete(1, e));
        }
        Check.index("delete of -1, full", () -> x.delete(1, -1));
    }

    private static void noNumberBeforeState() {
        WovenRow x = Rows.small();
        for (int k : Rows.NO_SMALL_OPERATIONS) {
            Check.index("give of " + k + " to one that holds nothing", () -> x.give(2, k));
            Check.index("place of " + k + " in an empty row", () -> x.place(2, k));
        }
    }

    /** With room, insert and delete know no IndexOutOfBoundsException, whatever the number. */
    private static void stateLast() {
        WovenRow x = Rows.small();
        for (int e : Rows.NO_SMALL_OPERATIONS) {
            Check.state("delete of " + e, () -> x.delete(0, e));
            if (e != -1) {
                Check.state("insert behind " + e, () -> x.insert(0, e, 1L));
            }
        }
        Check.state("give of what is behind one it does not hold", () -> x.give(2, 1));
        Check.state("place of one it does not hold", () -> x.place(2, 1));
    }
}
