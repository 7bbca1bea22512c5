/** Promise 11: count. */
public final class Promise11CountTest {
    public static void main(String[] args) {
        Check.sentence("0: OPERATIONS that it HOLDS; 1: ELEMENTS; 2: those SEEN",
                Promise11CountTest::eachKind);
        Check.sentence("2: those SEEN", Promise11CountTest::noneSeen);
        Check.sentence("3: the greatest count of these OPERATIONS",
                Promise11CountTest::greatestOfThoseThatItHolds);
        Check.sentence("(0 without any)", Promise11CountTest::withoutAny);
        Check.sentence("up to 160", Promise11CountTest::fullObject);
        Check.sentence("IllegalArgumentException for others, too", Promise11CountTest::noSuchKind);
        Check.sentence("there is no such REPLICA", Promise11CountTest::noSuchReplica);
        Check.end();
    }

    private static void eachKind() {
        WovenRow x = Rows.small();
        Check.counts("small", x, 0, 3, 2, 1, 3);
        Check.counts("small", x, 1, 2, 2, 2, 1);
        x.delete(0, 1);
        Check.counts("deleted twice", x, 0, 4, 2, 1, 4);
        x.tell(1, 0);
        Check.counts("told", x, 1, 5, 3, 2, 4);
    }

    private static void noneSeen() {
        WovenRow x = new WovenRow();
        x.insert(0, -1, 1L);
        x.delete(0, 0);
        Check.counts("the only one is deleted", x, 0, 2, 1, 0, 2);
        x.give(1, 0);
        Check.counts("but not for another", x, 1, 1, 1, 1, 1);
    }

    private static void greatestOfThoseThatItHolds() {
        WovenRow x = Rows.atTheFront(3);
        x.give(1, 1);
        Check.counts("the middle one alone", x, 1, 1, 1, 1, 2);
        x.give(1, 0);
        Check.counts("and the first", x, 1, 2, 2, 2, 2);
        x.delete(1, 0);
        Check.counts("a delete's count, too", x, 1, 3, 2, 1, 3);
    }

    private static void withoutAny() {
        WovenRow x = Rows.small();
        Check.counts("holds nothing", x, 2, 0, 0, 0, 0);
        x.tell(2, 3);
        Check.counts("was told nothing", x, 2, 0, 0, 0, 0);
        WovenRow full = Rows.full();
        Check.counts("holds nothing of 160", full, 3, 0, 0, 0, 0);
    }

    private static void fullObject() {
        WovenRow inserts = Rows.full();
        Check.counts("160 inserts", inserts, 0, 160, 160, 160, 160);
        WovenRow deletes = Rows.atTheFront(80);
        for (int k = 0; k < 80; k++) {
            deletes.delete(0, k);
        }
        Check.counts("80 inserts and their deletes", deletes, 0, 160, 80, 0, 160);
    }

    private static void noSuchKind() {
        WovenRow x = Rows.small();
        for (int what : new int[] {-1, 4, -2, 5, Integer.MIN_VALUE, Integer.MAX_VALUE}) {
            Check.argument("count(0, " + what + ")", () -> x.count(0, what));
            Check.argument("holding nothing: count(2, " + what + ")", () -> x.count(2, what));
        }
    }

    private static void noSuchReplica() {
        WovenRow x = Rows.small();
        for (int r : Rows.NO_REPLICAS) {
            for (int what = -1; what <= 4; what++) {
                int kind = what;
                Check.argument("count(" + r + ", " + what + ")", () -> x.count(r, kind));
            }
        }
    }
}
