/** Promise 9: value. */
public final class Promise09ValueTest {
    public static void main(String[] args) {
        Check.sentence("The number of ELEMENT e", Promise09ValueTest::everyNumber);
        Check.sentence("The number of ELEMENT e", Promise09ValueTest::deletedOnesKeepTheirs);
        Check.sentence("The number of ELEMENT e", Promise09ValueTest::firstAndLastOf160);
        Check.sentence("there is none such", Promise09ValueTest::noSuchNumber);
        Check.sentence("there is none such", Promise09ValueTest::aDelete);
        Check.end();
    }

    private static void everyNumber() {
        long[] numbers = {0L, -1L, 1L, Long.MAX_VALUE, Long.MIN_VALUE, 1L << 32, 1L << 31, 7L, 7L};
        WovenRow x = new WovenRow();
        for (int k = 0; k < numbers.length; k++) {
            x.insert(k % Rows.REPLICAS, -1, numbers[k]);
        }
        for (int k = 0; k < numbers.length; k++) {
            int e = k;
            Check.due("value(" + k + ")", numbers[k], () -> x.value(e));
        }
    }

    private static void deletedOnesKeepTheirs() {
        WovenRow x = Rows.small();
        Check.due("value of a deleted one", 11L, () -> x.value(1));
        Check.due("value of the one behind a delete's number", 20L, () -> x.value(3));
    }

    private static void firstAndLastOf160() {
        WovenRow x = Rows.full();
        Check.due("the first of 160", 0L, () -> x.value(0));
        Check.due("the last of 160", 159L, () -> x.value(159));
    }

    private static void noSuchNumber() {
        WovenRow x = Rows.small();
        for (int e : Rows.NO_SMALL_OPERATIONS) {
            Check.index("value(" + e + ")", () -> x.value(e));
        }
        WovenRow full = Rows.full();
        for (int e : Rows.NO_OPERATIONS_EVER) {
            Check.index("full: value(" + e + ")", () -> full.value(e));
        }
    }

    private static void aDelete() {
        WovenRow x = Rows.small();
        Check.index("value of a delete", () -> x.value(2));
        WovenRow full = Rows.atTheFront(159);
        full.delete(0, 158);
        Check.index("the last of 160, a delete", () -> full.value(159));
    }
}
