/** Promise 10: stamp. */
public final class Promise10StampTest {
    public static void main(String[] args) {
        oneMoreThanItHolds();
        refusals();
        Check.end();
    }

    private static void oneMoreThanItHolds() {
        WovenRow x = new WovenRow();
        x.insert(0, -1, 1L);
        x.insert(0, -1, 2L);
        x.delete(0, 0);
        x.insert(1, -1, 3L);
        x.give(1, 1);
        x.insert(1, -1, 4L);
        x.insert(2, -1, 5L);
        x.tell(2, 1);
        x.delete(2, 4);
        x.insert(0, -1, 6L);
        int[] want = {1, 2, 3, 1, 3, 1, 4, 4};
        for (int k = 0; k < want.length; k++) {
            int op = k;
            Check.due("stamp(" + k + ")", want[k], () -> x.stamp(op));
        }
    }

    private static void refusals() {
        WovenRow x = Rows.small();
        int[] none = {-1, 4, 159, 160, Integer.MIN_VALUE, Integer.MAX_VALUE};
        for (int k : none) {
            Check.index("stamp(" + k + ")", () -> x.stamp(k));
        }
        WovenRow full = Rows.full();
        Check.due("the last of 160", 160, () -> full.stamp(159));
        Check.index("behind the last of 160", () -> full.stamp(160));
    }
}
