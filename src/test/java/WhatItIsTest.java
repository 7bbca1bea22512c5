/** What it is: whoever holds the same changes sees the same row; at most 512 calls. */
public final class WhatItIsTest {
    public static void main(String[] args) {
        Check.sentence("whoever holds the same changes sees the same row",
                WhatItIsTest::inWhateverOrderTheyCame);
        Check.sentence("An object is used for at most 512 calls after it has been made",
                WhatItIsTest::upToTheLastCall);
        Check.end();
    }

    /** Replica 3 gets the same seven operations in each of their 5,040 orders. */
    private static void inWhateverOrderTheyCame() {
        giveInAllOrders(new int[] {0, 1, 2, 3, 4, 5, 6}, 0);
    }

    private static void giveInAllOrders(int[] order, int settled) {
        if (settled == order.length) {
            giveInOrder(order);
            return;
        }
        for (int i = settled; i < order.length; i++) {
            swap(order, settled, i);
            giveInAllOrders(order, settled + 1);
            swap(order, settled, i);
        }
    }

    private static void swap(int[] order, int i, int j) {
        int kept = order[i];
        order[i] = order[j];
        order[j] = kept;
    }

    private static void giveInOrder(int[] order) {
        WovenRow x = severalHands();
        // A refused one comes again, until what it speaks of has come before it.
        for (int turn = 0; turn < order.length; turn++) {
            for (int k : order) {
                Check.outcome(() -> {
                    x.give(3, k);
                    return k;
                });
            }
        }
        Check.counts("all given", x, 3, 7, 6, 5, 4);
        Check.row("all given", x, 3, 5, 1, 3, 6, 0);
        x.tell(2, 3);
        Check.due("same(2, 3)", true, () -> x.same(2, 3));
    }

    private static WovenRow severalHands() {
        WovenRow x = new WovenRow();
        x.insert(0, -1, 1L);
        x.insert(1, -1, 2L);
        x.tell(0, 1);
        x.insert(0, 1, 3L);
        x.give(2, 1);
        x.insert(2, 1, 4L);
        x.delete(0, 2);
        x.tell(2, 0);
        x.insert(2, -1, 5L);
        x.insert(1, 1, 6L);
        return x;
    }

    private static void upToTheLastCall() {
        lastCallMakesTheFirst();
        lastCallAfterRefusedOnes();
        lastCallIsRefused();
        lastCallReadsAFullRow();
        lastCallTellsAFullRow();
    }

    private static void lastCallMakesTheFirst() {
        WovenRow x = new WovenRow();
        for (int call = 1; call < Rows.MOST_CALLS; call++) {
            x.tell(0, 1);
        }
        Check.due("call 512, the first insert", 0, () -> x.insert(0, -1, 1L));
    }

    private static void lastCallAfterRefusedOnes() {
        WovenRow x = new WovenRow();
        for (int call = 1; call < Rows.MOST_CALLS; call++) {
            Check.state("call " + call, () -> x.insert(3, 0, 1L));
        }
        Check.due("call 512, behind 511 refused ones", 0, () -> x.insert(3, -1, 1L));
    }

    private static void lastCallIsRefused() {
        WovenRow x = Rows.full();
        for (int call = Rows.MOST_OPERATIONS + 1; call <= Rows.MOST_CALLS; call++) {
            Check.index("call " + call + " on a full object", () -> x.insert(0, -1, 1L));
        }
    }

    private static void lastCallReadsAFullRow() {
        WovenRow x = Rows.full();
        for (int call = Rows.MOST_OPERATIONS + 1; call < Rows.MOST_CALLS; call++) {
            x.give(1, call % Rows.MOST_OPERATIONS);
        }
        Check.due("call 512, the last of 160", 0, () -> x.at(1, 159));
    }

    private static void lastCallTellsAFullRow() {
        WovenRow x = Rows.full();
        for (int call = Rows.MOST_OPERATIONS + 1; call < Rows.MOST_CALLS; call++) {
            x.same(0, 2);
        }
        Check.due("call 512, tell of 160", 160, () -> x.tell(2, 0));
    }
}
