/** Promise 9: value. */
public final class Promise09ValueTest {
    public static void main(String[] args) {
        everyNumber();
        deletedOnesKeepTheirs();
        refusals();
        Check.end();
    }

    private static void everyNumber() {
        long[] numbers = {0L, -1L, 1L, Long.MAX_VALUE, Long.MIN_VALUE, 1L << 32, 1L << 31, 7L, 7L};
        WovenRow x = new WovenRow();
        for (int k = 0; k < numbers.length; k++) {
            x.insert(k % Rows.REPLICAS, -1, numbers[k]);
        }
        for (int k = 0; k < numbers.length; k++) {
            int e = k;
            Check.due("value(" + k + ")", numbers[k], () -> x.value(e));
        }
    }

    private static void deletedOnesKeepTheirs() {
        WovenRow x = Rows.small();
        Check.due("value of a deleted one", 11L, () -> x.value(1));
        Check.due("value of the one behind a delete's number", 20L, () -> x.value(3));
    }

    private static void refusals() {
        WovenRow x = Rows.small();
        int[] none = {-1, 4, 159, 160, Integer.MIN_VALUE, Integer.MAX_VALUE};
        for (int e : none) {
            Check.index("value(" + e + ")", () -> x.value(e));
        }
        Check.index("value of a delete", () -> x.value(2));
        WovenRow full = Rows.full();
        Check.due("the last of 160", 159L, () -> full.value(159));
        Check.index("behind the last of 160", () -> full.value(160));
    }
}
