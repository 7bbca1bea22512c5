/** Promise 7: at. */
public final class Promise07AtTest {
    public static void main(String[] args) {
        Check.sentence("The k-th (0 first) that is SEEN of THE ROW of r", Promise07AtTest::zeroFirst);
        Check.sentence("that is SEEN of THE ROW of r", Promise07AtTest::seenOnesAlone);
        Check.sentence("its number", Promise07AtTest::itsNumberNotItsPlace);
        Check.sentence("-1: there is none such", Promise07AtTest::behindTheLast);
        Check.sentence("-1: there is none such", Promise07AtTest::nothingSeen);
        Check.sentence("(k below 0, too)", Promise07AtTest::belowTheFirst);
        Check.sentence("there is no such REPLICA", Promise07AtTest::noSuchReplica);
        Check.end();
    }

    private static void zeroFirst() {
        WovenRow x = Rows.full();
        Check.due("the first of 160", 159, () -> x.at(0, 0));
        Check.due("the second of 160", 158, () -> x.at(0, 1));
        Check.due("the last of 160", 0, () -> x.at(0, 159));
    }

    private static void seenOnesAlone() {
        WovenRow x = new WovenRow();
        for (int k = 0; k < 5; k++) {
            x.insert(1, k - 1, k);
        }
        x.delete(1, 0);
        x.delete(1, 2);
        x.delete(1, 4);
        Check.row("without the first, a middle one and the last", x, 1, 1, 3);
        x.give(0, 0);
        x.give(0, 1);
        Check.row("its own part of the row", x, 0, 0, 1);
        x.give(0, 5);
        Check.row("its own deletes", x, 0, 1);
    }

    private static void itsNumberNotItsPlace() {
        WovenRow x = new WovenRow();
        x.insert(0, -1, 100L);
        x.delete(0, 0);
        x.insert(0, -1, 200L);
        Check.due("number 2, of place 0, of value 200", 2, () -> x.at(0, 0));
    }

    private static void behindTheLast() {
        WovenRow x = Rows.small();
        Check.due("the last, and the first", 0, () -> x.at(0, 0));
        for (int k : new int[] {1, 2, 3, 159, 160, Integer.MAX_VALUE}) {
            Check.due("at(0, " + k + ")", -1, () -> x.at(0, k));
        }
        WovenRow full = Rows.full();
        for (int k : new int[] {160, 161, Integer.MAX_VALUE}) {
            Check.due("full: at(0, " + k + ")", -1, () -> full.at(0, k));
        }
    }

    private static void nothingSeen() {
        WovenRow x = Rows.small();
        Check.due("an empty row", -1, () -> x.at(2, 0));
        x.delete(0, 0);
        Check.due("all of the row is deleted", -1, () -> x.at(0, 0));
        Check.due("but not of another's", 3, () -> x.at(1, 0));
    }

    private static void belowTheFirst() {
        WovenRow x = Rows.small();
        WovenRow full = Rows.full();
        for (int k : new int[] {-1, -2, -160, Integer.MIN_VALUE}) {
            Check.due("at(0, " + k + ")", -1, () -> x.at(0, k));
            Check.due("empty row: at(2, " + k + ")", -1, () -> x.at(2, k));
            Check.due("full: at(0, " + k + ")", -1, () -> full.at(0, k));
        }
    }

    private static void noSuchReplica() {
        WovenRow x = Rows.small();
        for (int r : Rows.NO_REPLICAS) {
            Check.argument("at of replica " + r, () -> x.at(r, 0));
            Check.argument("at of replica " + r + ", k below 0", () -> x.at(r, -1));
            Check.argument("at of replica " + r + ", k too large", () -> x.at(r, 160));
        }
    }
}
