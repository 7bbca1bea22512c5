/** Promise 10: stamp. */
public final class Promise10StampTest {
    public static void main(String[] args) {
        Check.sentence("The count of the STAMP of OPERATION k", Promise10StampTest::oneMoreThanItHolds);
        Check.sentence("The count of the STAMP of OPERATION k", Promise10StampTest::firstAndLastOf160);
        Check.sentence("there is none such", Promise10StampTest::noSuchNumber);
        Check.end();
    }

    private static void oneMoreThanItHolds() {
        WovenRow x = new WovenRow();
        x.insert(0, -1, 1L);
        x.insert(0, -1, 2L);
        x.delete(0, 0);
        x.insert(1, -1, 3L);
        x.give(1, 1);
        x.insert(1, -1, 4L);
        x.insert(2, -1, 5L);
        x.tell(2, 1);
        x.delete(2, 4);
        x.insert(0, -1, 6L);
        int[] want = {1, 2, 3, 1, 3, 1, 4, 4};
        for (int k = 0; k < want.length; k++) {
            int op = k;
            Check.due("stamp(" + k + ")", want[k], () -> x.stamp(op));
        }
    }

    private static void firstAndLastOf160() {
        WovenRow x = Rows.full();
        Check.due("the first of 160", 1, () -> x.stamp(0));
        Check.due("the last of 160", 160, () -> x.stamp(159));
        WovenRow deletes = Rows.atTheFront(159);
        deletes.delete(0, 0);
        Check.due("the last of 160, a delete", 160, () -> deletes.stamp(159));
    }

    private static void noSuchNumber() {
        WovenRow x = Rows.small();
        for (int k : Rows.NO_SMALL_OPERATIONS) {
            Check.index("stamp(" + k + ")", () -> x.stamp(k));
        }
        WovenRow full = Rows.full();
        for (int k : Rows.NO_OPERATIONS_EVER) {
            Check.index("full: stamp(" + k + ")", () -> full.stamp(k));
        }
    }
}
