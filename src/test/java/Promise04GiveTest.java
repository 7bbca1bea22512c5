/** Promise 4: give. */
public final class Promise04GiveTest {
    public static void main(String[] args) {
        getsOneOperation();
        maybeHeld();
        ordersByStampNotByArrival();
        raisesTheCount();
        refusals();
        Check.end();
    }

    private static void getsOneOperation() {
        WovenRow x = new WovenRow();
        x.insert(0, -1, 1L);
        x.insert(0, 0, 2L);
        x.delete(0, 0);
        x.give(3, 0);
        Check.row("got 0", x, 3, 0);
        x.give(3, 2);
        Check.row("got the delete of 0", x, 3);
        x.give(3, 1);
        Check.row("got 1 behind the deleted 0", x, 3, 1);
        Check.due("holds all", 3, () -> x.count(3, 0));
        Check.due("another holds none", 0, () -> x.count(2, 0));
    }

    private static void maybeHeld() {
        WovenRow x = Rows.small();
        String before = Rows.state(x, Rows.SMALL_OPERATIONS);
        for (int k = 0; k <= 2; k++) {
            x.give(0, k);
        }
        x.give(1, 0);
        Check.due("give of what it holds", before, () -> Rows.state(x, Rows.SMALL_OPERATIONS));
    }

    private static void ordersByStampNotByArrival() {
        WovenRow x = new WovenRow();
        x.insert(0, -1, 1L);
        x.insert(0, -1, 2L);
        x.insert(1, -1, 3L);
        x.give(2, 1);
        x.give(2, 2);
        x.give(2, 0);
        Check.row("of the greatest stamp first", x, 2, 1, 2, 0);
    }

    private static void raisesTheCount() {
        WovenRow x = new WovenRow();
        for (int k = 0; k < 5; k++) {
            x.insert(0, -1, k);
        }
        x.insert(1, -1, 5L);
        x.give(1, 4);
        Check.due("greatest count", 5, () -> x.count(1, 3));
        x.give(1, 2);
        Check.due("a lesser count does not lower it", 5, () -> x.count(1, 3));
        x.insert(1, -1, 6L);
        Check.due("one more than what it got", 6, () -> x.stamp(6));
    }

    private static void refusals() {
        WovenRow x = Rows.small();
        for (int r : Rows.NO_REPLICAS) {
            Check.argument("give to replica " + r, () -> x.give(r, 0));
            Check.argument("give to replica " + r + ", no operation", () -> x.give(r, -1));
        }
        int[] none = {-1, 4, 160, Integer.MIN_VALUE, Integer.MAX_VALUE};
        for (int k : none) {
            Check.index("give of " + k, () -> x.give(0, k));
        }
        Check.state("an insert behind what it does not hold", () -> x.give(2, 1));
        Check.state("a delete of what it does not hold", () -> x.give(1, 2));
        Rows.unchanged("give(2, 1)", y -> y.give(2, 1));
        Rows.unchanged("give(1, 2)", y -> y.give(1, 2));
        Rows.unchanged("give(0, 4)", y -> y.give(0, 4));
        Rows.unchanged("give(4, 0)", y -> y.give(4, 0));
    }
}
