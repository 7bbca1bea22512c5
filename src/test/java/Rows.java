/** Objects that several tests begin with, and views of an object's whole state. */
final class Rows {
    static final int REPLICAS = 4;
    static final int MOST_OPERATIONS = 160;
    static final int[] NO_REPLICAS = {-1, REPLICAS, Integer.MIN_VALUE, Integer.MAX_VALUE};

    private Rows() {
    }

    /**
     * Replica 0 holds elements 0 and 1 (behind 0) and the delete 2 (of 1); replica 1 holds
     * element 3 and got 0; replicas 2 and 3 hold nothing.
     */
    static WovenRow small() {
        WovenRow x = new WovenRow();
        x.insert(0, -1, 10L);
        x.insert(0, 0, 11L);
        x.delete(0, 1);
        x.insert(1, -1, 20L);
        x.give(1, 0);
        return x;
    }

    static final int SMALL_OPERATIONS = 4;

    /** Replica 0 holds 160 inserts, each at the front. */
    static WovenRow full() {
        WovenRow x = new WovenRow();
        for (int k = 0; k < MOST_OPERATIONS; k++) {
            x.insert(0, -1, k);
        }
        return x;
    }

    /** Every answer that a state of so many operations can give. */
    static String state(WovenRow x, int operations) {
        StringBuilder text = new StringBuilder();
        for (int r = 0; r < REPLICAS; r++) {
            appendReplica(text, x, r, operations);
        }
        for (int k = 0; k <= operations; k++) {
            int op = k;
            text.append(Check.outcome(() -> x.value(op))).append(' ');
            text.append(Check.outcome(() -> x.stamp(op))).append(' ');
        }
        return text.toString();
    }

    private static void appendReplica(StringBuilder text, WovenRow x, int r, int operations) {
        for (int what = 0; what < 4; what++) {
            text.append(x.count(r, what)).append(' ');
        }
        for (int k = 0; k <= operations; k++) {
            int op = k;
            text.append(Check.outcome(() -> x.holds(r, op))).append(' ');
            text.append(Check.outcome(() -> x.at(r, op))).append(' ');
            text.append(Check.outcome(() -> x.place(r, op))).append(' ');
        }
        text.append('\n');
    }

    /** That a refused call leaves all answers of the small object as they were. */
    static void unchanged(String call, ChangeOf refused) {
        WovenRow x = small();
        String before = state(x, SMALL_OPERATIONS);
        Check.due(call + " is refused", true, () -> isRefused(x, refused));
        Check.due(call + " changes nothing", before, () -> state(x, SMALL_OPERATIONS));
    }

    interface ChangeOf {
        void run(WovenRow x);
    }

    private static boolean isRefused(WovenRow x, ChangeOf refused) {
        try {
            refused.run(x);
            return false;
        } catch (RuntimeException e) {
            return true;
        }
    }
}
