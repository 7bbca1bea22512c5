/** Promise 11: count. */
public final class Promise11CountTest {
    public static void main(String[] args) {
        eachKind();
        greatestOfThoseThatItHolds();
        refusals();
        Check.end();
    }

    private static void eachKind() {
        WovenRow x = Rows.small();
        counts("small", x, 0, 3, 2, 1, 3);
        counts("small", x, 1, 2, 2, 2, 1);
        counts("small", x, 2, 0, 0, 0, 0);
        x.delete(0, 1);
        counts("deleted twice", x, 0, 4, 2, 1, 4);
        x.tell(1, 0);
        counts("told", x, 1, 5, 3, 2, 4);
    }

    private static void greatestOfThoseThatItHolds() {
        WovenRow x = new WovenRow();
        x.insert(0, -1, 1L);
        x.insert(0, -1, 2L);
        x.insert(0, -1, 3L);
        x.give(1, 1);
        counts("the middle one alone", x, 1, 1, 1, 1, 2);
        x.give(1, 0);
        counts("and the first", x, 1, 2, 2, 2, 2);
        x.delete(1, 0);
        counts("a delete's count, too", x, 1, 3, 2, 1, 3);
    }

    private static void counts(String when, WovenRow x, int r, int... want) {
        for (int what = 0; what < want.length; what++) {
            int kind = what;
            Check.due(when + ": count(" + r + ", " + what + ")", want[what], () -> x.count(r, kind));
        }
    }

    private static void refusals() {
        WovenRow x = Rows.small();
        for (int r : Rows.NO_REPLICAS) {
            Check.argument("count of replica " + r, () -> x.count(r, 0));
            Check.argument("count of replica " + r + ", no such count", () -> x.count(r, 4));
        }
        int[] none = {-1, 4, 5, Integer.MIN_VALUE, Integer.MAX_VALUE};
        for (int what : none) {
            Check.argument("count(0, " + what + ")", () -> x.count(0, what));
        }
    }
}
