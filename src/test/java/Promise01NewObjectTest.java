/** Promise 1: a new object. */
public final class Promise01NewObjectTest {
    public static void main(String[] args) {
        Check.sentence("No OPERATIONS", Promise01NewObjectTest::nothingIsHeld);
        Check.sentence("No OPERATIONS", Promise01NewObjectTest::nothingHasANumber);
        Check.sentence("No OPERATIONS", Promise01NewObjectTest::nothingIsTold);
        Check.sentence("No OPERATIONS", Promise01NewObjectTest::theFirstIsNumberZero);
        Check.sentence("No OPERATIONS", Promise01NewObjectTest::objectsAreApart);
        Check.end();
    }

    private static void nothingIsHeld() {
        WovenRow x = new WovenRow();
        for (int r = 0; r < Rows.REPLICAS; r++) {
            Check.counts("new", x, r, 0, 0, 0, 0);
            Check.row("new", x, r);
        }
    }

    private static void nothingHasANumber() {
        WovenRow x = new WovenRow();
        for (int r = 0; r < Rows.REPLICAS; r++) {
            int replica = r;
            Check.index("new: holds(" + r + ", 0)", () -> x.holds(replica, 0));
            Check.index("new: place(" + r + ", 0)", () -> x.place(replica, 0));
            Check.index("new: give(" + r + ", 0)", () -> x.give(replica, 0));
            Check.state("new: insert(" + r + ", 0, 1)", () -> x.insert(replica, 0, 1L));
            Check.state("new: delete(" + r + ", 0)", () -> x.delete(replica, 0));
        }
        Check.index("new: value(0)", () -> x.value(0));
        Check.index("new: stamp(0)", () -> x.stamp(0));
    }

    private static void nothingIsTold() {
        WovenRow x = new WovenRow();
        for (int r = 0; r < Rows.REPLICAS; r++) {
            for (int s = 0; s < Rows.REPLICAS; s++) {
                int to = r;
                int from = s;
                Check.due("new: tell(" + r + ", " + s + ")", 0, () -> x.tell(to, from));
                Check.due("new: same(" + r + ", " + s + ")", true, () -> x.same(to, from));
            }
        }
    }

    private static void theFirstIsNumberZero() {
        for (int r = 0; r < Rows.REPLICAS; r++) {
            WovenRow x = new WovenRow();
            int replica = r;
            Check.due("new: insert(" + r + ", -1, 5)", 0, () -> x.insert(replica, -1, 5L));
            Check.due("the first stamp", 1, () -> x.stamp(0));
        }
    }

    private static void objectsAreApart() {
        WovenRow other = Rows.small();
        WovenRow x = new WovenRow();
        Check.counts("beside another", x, 0, 0, 0, 0, 0);
        Check.due("beside another: insert", 0, () -> x.insert(0, -1, 5L));
        Check.due("the other's value(0)", 10L, () -> other.value(0));
        Check.counts("the other", other, 0, 3, 2, 1, 3);
    }
}
