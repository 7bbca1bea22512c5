/** Promise 2: insert. */
public final class Promise02InsertTest {
    public static void main(String[] args) {
        numbersAndRow();
        behindADeletedElement();
        concurrentInserts();
        greaterNeighboursKeepTheirOwn();
        aLongChain();
        refusals();
        fullObject();
        Check.end();
    }

    private static void numbersAndRow() {
        WovenRow x = new WovenRow();
        Check.due("insert(0, -1, 7)", 0, () -> x.insert(0, -1, 7L));
        Check.due("insert(0, -1, 8)", 1, () -> x.insert(0, -1, 8L));
        Check.due("insert(0, 0, 9)", 2, () -> x.insert(0, 0, 9L));
        Check.due("insert(0, 0, 7)", 3, () -> x.insert(0, 0, 7L));
        Check.due("insert(0, 2, 6)", 4, () -> x.insert(0, 2, 6L));
        Check.row("one replica", x, 0, 1, 0, 3, 2, 4);
        Check.row("the others got nothing", x, 1);
        Check.due("holds(0, 4)", true, () -> x.holds(0, 4));
        Check.due("holds(1, 4)", false, () -> x.holds(1, 4));
    }

    private static void behindADeletedElement() {
        WovenRow x = new WovenRow();
        x.insert(0, -1, 1L);
        x.insert(0, 0, 2L);
        x.delete(0, 0);
        Check.due("insert behind a deleted one", 3, () -> x.insert(0, 0, 3L));
        Check.row("behind a deleted one", x, 0, 3, 1);
        Check.due("place(0, 3)", 1, () -> x.place(0, 3));
    }

    private static void concurrentInserts() {
        WovenRow x = new WovenRow();
        x.insert(3, -1, 1L);
        x.insert(1, -1, 2L);
        x.insert(2, -1, 3L);
        x.insert(0, -1, 4L);
        for (int s = 1; s < Rows.REPLICAS; s++) {
            x.tell(0, s);
        }
        Check.row("equal counts: the greater replica first", x, 0, 0, 2, 1, 3);
        x.tell(3, 0);
        Check.row("equal counts, seen by 3", x, 3, 0, 2, 1, 3);
        Check.due("insert(0, -1, 5) is of the greatest count", 4, () -> x.insert(0, -1, 5L));
        Check.row("the greater count first", x, 0, 4, 0, 2, 1, 3);
    }

    private static void greaterNeighboursKeepTheirOwn() {
        WovenRow x = new WovenRow();
        x.insert(0, -1, 1L);
        x.tell(1, 0);
        x.tell(2, 0);
        x.insert(2, 0, 2L);
        x.insert(2, 1, 3L);
        x.insert(1, 0, 4L);
        x.insert(1, 3, 5L);
        x.tell(0, 1);
        x.tell(0, 2);
        Check.row("each with all that is behind it", x, 0, 0, 1, 2, 3, 4);
        x.insert(1, 0, 6L);
        x.tell(0, 1);
        Check.row("the late one is of the greatest count", x, 0, 0, 5, 1, 2, 3, 4);
    }

    private static void aLongChain() {
        WovenRow x = new WovenRow();
        for (int k = 0; k < Rows.MOST_OPERATIONS; k++) {
            x.insert(2, k - 1, k);
        }
        for (int k = 0; k < Rows.MOST_OPERATIONS; k++) {
            int nth = k;
            Check.due("chain: at(2, " + k + ")", k, () -> x.at(2, nth));
        }
        Check.due("chain: place of the last", 159, () -> x.place(2, 159));
    }

    private static void refusals() {
        WovenRow x = Rows.small();
        for (int r : Rows.NO_REPLICAS) {
            Check.argument("insert of replica " + r, () -> x.insert(r, -1, 1L));
            Check.argument("insert of replica " + r + ", wrong behind", () -> x.insert(r, 99, 1L));
        }
        int[] wrong = {-2, Integer.MIN_VALUE, 2, 3, 4, 159, 160, Integer.MAX_VALUE};
        for (int behind : wrong) {
            Check.state("insert behind " + behind, () -> x.insert(0, behind, 1L));
        }
        Check.state("insert behind what it did not get", () -> x.insert(2, 0, 1L));
        Check.due("the next number after refusals", 4, () -> x.insert(0, -1, 1L));
        Rows.unchanged("insert(4, -1, 1)", y -> y.insert(4, -1, 1L));
        Rows.unchanged("insert(1, 1, 1)", y -> y.insert(1, 1, 1L));
        Rows.unchanged("insert(0, 2, 1)", y -> y.insert(0, 2, 1L));
        Rows.unchanged("insert(0, -2, 1)", y -> y.insert(0, -2, 1L));
    }

    private static void fullObject() {
        WovenRow x = Rows.full();
        Check.index("insert into a full object", () -> x.insert(0, -1, 1L));
        Check.index("insert into a full object of another replica", () -> x.insert(1, -1, 1L));
        Check.index("full comes before a wrong element", () -> x.insert(0, -2, 1L));
        Check.argument("no replica comes before full", () -> x.insert(4, -1, 1L));
        Check.due("full: count(0, 0)", 160, () -> x.count(0, 0));
        Check.due("full: count(0, 3)", 160, () -> x.count(0, 3));
        Check.due("full: at(0, 0)", 159, () -> x.at(0, 0));
    }
}
