/** Promise 7: at. */
public final class Promise07AtTest {
    public static void main(String[] args) {
        seenOnesAlone();
        noneSuch();
        refusals();
        Check.end();
    }

    private static void seenOnesAlone() {
        WovenRow x = new WovenRow();
        for (int k = 0; k < 5; k++) {
            x.insert(1, k - 1, k);
        }
        x.delete(1, 0);
        x.delete(1, 2);
        x.delete(1, 4);
        Check.row("without the deleted ones", x, 1, 1, 3);
        x.give(0, 0);
        x.give(0, 1);
        Check.row("its own part of the row", x, 0, 0, 1);
        x.give(0, 5);
        Check.row("its own deletes", x, 0, 1);
    }

    private static void noneSuch() {
        WovenRow x = Rows.small();
        Check.due("at(0, 0)", 0, () -> x.at(0, 0));
        int[] none = {1, 2, 160, Integer.MAX_VALUE, -1, -2, Integer.MIN_VALUE};
        for (int k : none) {
            Check.due("at(0, " + k + ")", -1, () -> x.at(0, k));
        }
        Check.due("at of an empty row", -1, () -> x.at(2, 0));
        WovenRow full = Rows.full();
        Check.due("the last of 160", 0, () -> full.at(0, 159));
        Check.due("behind the last of 160", -1, () -> full.at(0, 160));
    }

    private static void refusals() {
        WovenRow x = Rows.small();
        for (int r : Rows.NO_REPLICAS) {
            Check.argument("at of replica " + r, () -> x.at(r, 0));
            Check.argument("at of replica " + r + ", k below 0", () -> x.at(r, -1));
        }
    }
}
