import java.util.function.Supplier;

/** Terms: a call that throws changes nothing, be the object new, small or full. */
public final class TermsRefusedCallsTest {
    private static final Class<IllegalArgumentException> ARGUMENT = IllegalArgumentException.class;
    private static final Class<IndexOutOfBoundsException> INDEX = IndexOutOfBoundsException.class;
    private static final Class<IllegalStateException> STATE = IllegalStateException.class;

    public static void main(String[] args) {
        Check.sentence("A call that throws changes nothing", () -> {
            noReplica("new: ", WovenRow::new);
            noReplica("small: ", Rows::small);
            noReplica("full: ", Rows::smallGrownFull);
            noNumber("new: ", WovenRow::new, -1, 0, 160);
            noNumber("small: ", Rows::small, -1, 4, 160);
            noNumber("full: ", Rows::smallGrownFull, -1, 160);
            notHeld("small: ", Rows::small);
            notHeld("full: ", Rows::smallGrownFull);
            noElementToChange();
            noRoom();
        });
        Check.end();
    }

    private static void noReplica(String when, Supplier<WovenRow> history) {
        for (int r : new int[] {-1, Rows.REPLICAS}) {
            String who = when + "replica " + r + ", ";
            refused(who + "insert", history, ARGUMENT, x -> x.insert(r, -1, 1L));
            refused(who + "delete", history, ARGUMENT, x -> x.delete(r, 0));
            refused(who + "give", history, ARGUMENT, x -> x.give(r, 0));
            refused(who + "tell to it", history, ARGUMENT, x -> x.tell(r, 0));
            refused(who + "tell of it", history, ARGUMENT, x -> x.tell(2, r));
            refused(who + "holds", history, ARGUMENT, x -> x.holds(r, 0));
            refused(who + "at", history, ARGUMENT, x -> x.at(r, 0));
            refused(who + "place", history, ARGUMENT, x -> x.place(r, 0));
            refused(who + "count", history, ARGUMENT, x -> x.count(r, 0));
            refused(who + "same", history, ARGUMENT, x -> x.same(r, 0));
            refused(who + "same with it", history, ARGUMENT, x -> x.same(0, r));
        }
        refused(when + "count of -1", history, ARGUMENT, x -> x.count(0, -1));
        refused(when + "count of 4", history, ARGUMENT, x -> x.count(0, 4));
    }

    private static void noNumber(String when, Supplier<WovenRow> history, int... numbers) {
        for (int k : numbers) {
            String which = when + "number " + k + ", ";
            refused(which + "give", history, INDEX, x -> x.give(0, k));
            refused(which + "holds", history, INDEX, x -> x.holds(0, k));
            refused(which + "place", history, INDEX, x -> x.place(0, k));
            refused(which + "value", history, INDEX, x -> x.value(k));
            refused(which + "stamp", history, INDEX, x -> x.stamp(k));
        }
    }

    private static void notHeld(String when, Supplier<WovenRow> history) {
        refused(when + "give of an insert behind none", history, STATE, x -> x.give(2, 1));
        refused(when + "give of a delete of none", history, STATE, x -> x.give(1, 2));
        refused(when + "place of what it does not hold", history, STATE, x -> x.place(1, 1));
        refused(when + "place of a delete", history, STATE, x -> x.place(0, 2));
        refused(when + "value of a delete", history, INDEX, x -> x.value(2));
    }

    private static void noElementToChange() {
        refused("new: insert behind 0", WovenRow::new, STATE, x -> x.insert(0, 0, 1L));
        refused("new: delete of 0", WovenRow::new, STATE, x -> x.delete(0, 0));
        for (int e : new int[] {-2, 2, 3, 4, Rows.MOST_OPERATIONS}) {
            refused("small: insert behind " + e, Rows::small, STATE, x -> x.insert(0, e, 1L));
            refused("small: delete of " + e, Rows::small, STATE, x -> x.delete(0, e));
        }
        refused("small: delete of -1", Rows::small, STATE, x -> x.delete(0, -1));
    }

    private static void noRoom() {
        for (int e : new int[] {-1, 0, 1, 2, Rows.MOST_OPERATIONS}) {
            refused("full: insert behind " + e, Rows::smallGrownFull, INDEX, x -> x.insert(0, e, 1L));
            refused("full: delete of " + e, Rows::smallGrownFull, INDEX, x -> x.delete(0, e));
        }
    }

    private static void refused(String call, Supplier<WovenRow> history,
            Class<? extends RuntimeException> want, Twins.Change change) {
        Twins.alike(call, history, x -> Check.refuses(call, want, () -> change.on(x)));
    }
}
