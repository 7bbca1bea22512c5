/** Promise 3: delete. */
public final class Promise03DeleteTest {
    public static void main(String[] args) {
        hidesForItsHoldersAlone();
        deletesAgain();
        whatIsBehindStays();
        refusals();
        fullObject();
        Check.end();
    }

    private static void hidesForItsHoldersAlone() {
        WovenRow x = new WovenRow();
        x.insert(0, -1, 1L);
        x.insert(0, 0, 2L);
        x.tell(1, 0);
        Check.due("delete(1, 0)", 2, () -> x.delete(1, 0));
        Check.row("holds the delete", x, 1, 1);
        Check.row("does not hold it yet", x, 0, 0, 1);
        Check.due("stamp of the delete", 3, () -> x.stamp(2));
        Check.due("holds(1, 2)", true, () -> x.holds(1, 2));
        Check.due("holds(0, 2)", false, () -> x.holds(0, 2));
        x.give(0, 2);
        Check.row("got it", x, 0, 1);
    }

    private static void deletesAgain() {
        WovenRow x = new WovenRow();
        x.insert(0, -1, 1L);
        Check.due("first delete", 1, () -> x.delete(0, 0));
        Check.due("delete again", 2, () -> x.delete(0, 0));
        Check.due("and again", 3, () -> x.delete(0, 0));
        Check.due("count(0, 0)", 4, () -> x.count(0, 0));
        Check.due("count(0, 1)", 1, () -> x.count(0, 1));
        Check.due("count(0, 2)", 0, () -> x.count(0, 2));
        x.give(1, 0);
        x.give(1, 3);
        Check.row("the third delete is enough", x, 1);
    }

    private static void whatIsBehindStays() {
        WovenRow x = new WovenRow();
        x.insert(0, -1, 1L);
        x.insert(0, 0, 2L);
        x.insert(0, 1, 3L);
        x.delete(0, 0);
        x.delete(0, 1);
        Check.row("only the deleted ones are hidden", x, 0, 2);
        Check.due("the hidden ones keep their places", 2, () -> x.place(0, 2));
    }

    private static void refusals() {
        WovenRow x = Rows.small();
        for (int r : Rows.NO_REPLICAS) {
            Check.argument("delete of replica " + r, () -> x.delete(r, 0));
            Check.argument("delete of replica " + r + ", wrong element", () -> x.delete(r, 99));
        }
        int[] wrong = {-1, -2, Integer.MIN_VALUE, 2, 3, 4, 159, 160, Integer.MAX_VALUE};
        for (int e : wrong) {
            Check.state("delete of " + e, () -> x.delete(0, e));
        }
        Check.state("delete of what it did not get", () -> x.delete(2, 0));
        Check.due("the next number after refusals", 4, () -> x.delete(0, 0));
        Rows.unchanged("delete(-1, 0)", y -> y.delete(-1, 0));
        Rows.unchanged("delete(1, 1)", y -> y.delete(1, 1));
        Rows.unchanged("delete(0, 2)", y -> y.delete(0, 2));
    }

    private static void fullObject() {
        WovenRow x = Rows.full();
        Check.index("delete in a full object", () -> x.delete(0, 0));
        Check.index("full comes before a wrong element", () -> x.delete(0, -1));
        Check.argument("no replica comes before full", () -> x.delete(4, 0));
        Check.due("full: count(0, 2)", 160, () -> x.count(0, 2));
    }
}
