/** Objects that several tests begin with, and numbers that are beside all bounds. */
final class Rows {
    static final int REPLICAS = 4;
    static final int MOST_OPERATIONS = 160;
    static final int MOST_CALLS = 512;
    static final int[] NO_REPLICAS = {-1, REPLICAS, Integer.MIN_VALUE, Integer.MAX_VALUE};

    static final int SMALL_OPERATIONS = 4;
    /** What is no number of an operation of the small object: next to the bounds, and far out. */
    static final int[] NO_SMALL_OPERATIONS =
            {-1, SMALL_OPERATIONS, -2, 159, 160, Integer.MIN_VALUE, Integer.MAX_VALUE};
    static final int[] NO_OPERATIONS_EVER = {-1, 160, -2, 161, Integer.MIN_VALUE, Integer.MAX_VALUE};

    private Rows() {
    }

    /**
     * Replica 0 holds elements 0 and 1 (behind 0) and the delete 2 (of 1); replica 1 holds
     * element 3 and got 0; replicas 2 and 3 hold nothing.
     */
    static WovenRow small() {
        WovenRow x = new WovenRow();
        x.insert(0, -1, 10L);
        x.insert(0, 0, 11L);
        x.delete(0, 1);
        x.insert(1, -1, 20L);
        x.give(1, 0);
        return x;
    }

    /** The small object with inserts at the front, of replicas 0 and 1 in turn, until it is full. */
    static WovenRow smallGrownFull() {
        WovenRow x = small();
        for (int k = SMALL_OPERATIONS; k < MOST_OPERATIONS; k++) {
            x.insert(k % 2, -1, k);
        }
        return x;
    }

    /** Replica 0 holds 160 inserts, each at the front. */
    static WovenRow full() {
        return atTheFront(MOST_OPERATIONS);
    }

    /** Replica 0 holds so many inserts, each at the front, of its own number. */
    static WovenRow atTheFront(int operations) {
        WovenRow x = new WovenRow();
        for (int k = 0; k < operations; k++) {
            x.insert(0, -1, k);
        }
        return x;
    }
}
