/** Promise 8: place. */
public final class Promise08PlaceTest {
    public static void main(String[] args) {
        seenOrNot();
        amongItsOwn();
        refusals();
        Check.end();
    }

    private static void seenOrNot() {
        WovenRow x = new WovenRow();
        for (int k = 0; k < 4; k++) {
            x.insert(0, -1, k);
        }
        x.delete(0, 3);
        x.delete(0, 1);
        int[] want = {3, 2, 1, 0};
        for (int k = 0; k < 4; k++) {
            int e = k;
            Check.due("place(0, " + k + ")", want[k], () -> x.place(0, e));
        }
    }

    private static void amongItsOwn() {
        WovenRow x = new WovenRow();
        x.insert(0, -1, 1L);
        x.insert(1, -1, 2L);
        x.insert(2, -1, 3L);
        Check.due("alone in its row", 0, () -> x.place(0, 0));
        x.give(0, 2);
        Check.due("behind the one that it got", 1, () -> x.place(0, 0));
        x.give(0, 1);
        Check.due("behind both", 2, () -> x.place(0, 0));
        Check.due("between them", 1, () -> x.place(0, 1));
        Check.due("in another's row", 0, () -> x.place(1, 1));
    }

    private static void refusals() {
        WovenRow x = Rows.small();
        for (int r : Rows.NO_REPLICAS) {
            Check.argument("place of replica " + r, () -> x.place(r, 0));
            Check.argument("place of replica " + r + ", no operation", () -> x.place(r, 4));
        }
        int[] none = {-1, 4, 160, Integer.MIN_VALUE, Integer.MAX_VALUE};
        for (int e : none) {
            Check.index("place(0, " + e + ")", () -> x.place(0, e));
        }
        Check.state("place of a delete that it holds", () -> x.place(0, 2));
        Check.state("place of a delete that it does not hold", () -> x.place(1, 2));
        Check.state("place of an element that it does not hold", () -> x.place(1, 1));
    }
}
