/** Promise 1: a new object has no operations. */
public final class Promise01NewObjectTest {
    public static void main(String[] args) {
        nothingIsHeld();
        nothingHasANumber();
        objectsAreApart();
        Check.end();
    }

    private static void nothingIsHeld() {
        WovenRow x = new WovenRow();
        for (int r = 0; r < Rows.REPLICAS; r++) {
            int replica = r;
            for (int what = 0; what < 4; what++) {
                int kind = what;
                Check.due("new: count(" + r + ", " + what + ")", 0, () -> x.count(replica, kind));
            }
            Check.row("new", x, r);
            Check.due("new: tell(0, " + r + ")", 0, () -> x.tell(0, replica));
            Check.due("new: same(0, " + r + ")", true, () -> x.same(0, replica));
        }
    }

    private static void nothingHasANumber() {
        WovenRow x = new WovenRow();
        Check.index("new: value(0)", () -> x.value(0));
        Check.index("new: stamp(0)", () -> x.stamp(0));
        Check.index("new: holds(0, 0)", () -> x.holds(0, 0));
        Check.index("new: place(0, 0)", () -> x.place(0, 0));
        Check.index("new: give(0, 0)", () -> x.give(0, 0));
        Check.state("new: insert(0, 0, 1)", () -> x.insert(0, 0, 1L));
        Check.state("new: delete(0, 0)", () -> x.delete(0, 0));
    }

    private static void objectsAreApart() {
        WovenRow other = Rows.small();
        WovenRow x = new WovenRow();
        Check.due("beside another: count(0, 0)", 0, () -> x.count(0, 0));
        Check.due("beside another: insert", 0, () -> x.insert(0, -1, 5L));
        Check.due("the other's value(0)", 10L, () -> other.value(0));
    }
}
