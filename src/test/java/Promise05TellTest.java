/** Promise 5: tell. */
public final class Promise05TellTest {
    public static void main(String[] args) {
        getsAllThatItDidNotHold();
        oneWayOnly();
        passesOnWhatOthersMade();
        full();
        refusals();
        Check.end();
    }

    private static void getsAllThatItDidNotHold() {
        WovenRow x = Rows.small();
        Check.due("tell(1, 0): it held one of three", 2, () -> x.tell(1, 0));
        Check.due("tell(1, 0) again", 0, () -> x.tell(1, 0));
        Check.row("after tell", x, 1, 3, 0);
        Check.due("tell counts deletes too", 4, () -> x.count(1, 0));
        Check.due("tell to itself", 0, () -> x.tell(1, 1));
        Check.due("tell of nothing", 0, () -> x.tell(1, 3));
    }

    private static void oneWayOnly() {
        WovenRow x = Rows.small();
        x.tell(1, 0);
        Check.due("the teller got nothing", 3, () -> x.count(0, 0));
        Check.due("holds(0, 3)", false, () -> x.holds(0, 3));
        Check.due("others got nothing", 0, () -> x.count(2, 0));
    }

    private static void passesOnWhatOthersMade() {
        WovenRow x = new WovenRow();
        x.insert(0, -1, 1L);
        x.tell(1, 0);
        x.insert(1, 0, 2L);
        x.tell(2, 1);
        x.delete(2, 0);
        Check.due("tell(3, 2)", 3, () -> x.tell(3, 2));
        Check.row("at the end of the chain", x, 3, 1);
        Check.due("greatest count", 3, () -> x.count(3, 3));
        x.insert(3, 1, 4L);
        Check.due("one more than what it got", 4, () -> x.stamp(3));
    }

    private static void full() {
        WovenRow x = Rows.full();
        Check.due("tell of 160", 160, () -> x.tell(3, 0));
        Check.due("tell of 160 again", 0, () -> x.tell(3, 0));
        Check.due("same after it", true, () -> x.same(0, 3));
    }

    private static void refusals() {
        WovenRow x = Rows.small();
        for (int r : Rows.NO_REPLICAS) {
            Check.argument("tell to replica " + r, () -> x.tell(r, 0));
            Check.argument("tell of replica " + r, () -> x.tell(0, r));
            Check.argument("tell among replicas " + r, () -> x.tell(r, r));
        }
        Rows.unchanged("tell(4, 0)", y -> y.tell(4, 0));
        Rows.unchanged("tell(0, 4)", y -> y.tell(0, 4));
    }
}
