/** Promise 5: tell. */
public final class Promise05TellTest {
    public static void main(String[] args) {
        Check.sentence("REPLICA r gets all that s HOLDS", Promise05TellTest::oneWayOnly);
        Check.sentence("REPLICA r gets all that s HOLDS", Promise05TellTest::passesOnWhatOthersMade);
        Check.sentence("how many it did not HOLD", Promise05TellTest::howMany);
        Check.sentence("how many it did not HOLD", Promise05TellTest::noneAtAll);
        Check.sentence("how many it did not HOLD", Promise05TellTest::all160);
        Check.sentence("there is no such REPLICA", Promise05TellTest::noSuchReplica);
        Check.end();
    }

    private static void oneWayOnly() {
        WovenRow x = Rows.small();
        x.tell(1, 0);
        Check.row("after tell", x, 1, 3, 0);
        Check.counts("after tell", x, 1, 4, 3, 2, 3);
        Check.counts("the teller got nothing", x, 0, 3, 2, 1, 3);
        Check.due("holds(0, 3)", false, () -> x.holds(0, 3));
        Check.counts("others got nothing", x, 2, 0, 0, 0, 0);
    }

    private static void passesOnWhatOthersMade() {
        WovenRow x = new WovenRow();
        x.insert(0, -1, 1L);
        x.tell(1, 0);
        x.insert(1, 0, 2L);
        x.tell(2, 1);
        x.delete(2, 0);
        Check.due("tell(3, 2)", 3, () -> x.tell(3, 2));
        Check.row("at the end of the chain", x, 3, 1);
        Check.due("greatest count", 3, () -> x.count(3, 3));
        x.insert(3, 1, 4L);
        Check.due("one more than what it got", 4, () -> x.stamp(3));
    }

    private static void howMany() {
        WovenRow x = Rows.small();
        Check.due("it held one of three", 2, () -> x.tell(1, 0));
        Check.due("it held three of four", 1, () -> x.tell(0, 1));
        Check.due("it held none of four, a delete among them", 4, () -> x.tell(3, 0));
        x.delete(3, 0);
        Check.due("a delete alone", 1, () -> x.tell(1, 3));
    }

    private static void noneAtAll() {
        WovenRow x = Rows.small();
        Check.due("of one that holds nothing", 0, () -> x.tell(0, 2));
        Check.due("both hold nothing", 0, () -> x.tell(3, 2));
        Check.due("to itself", 0, () -> x.tell(0, 0));
        Check.due("to itself, holding nothing", 0, () -> x.tell(2, 2));
        x.tell(1, 0);
        Check.due("the same once more", 0, () -> x.tell(1, 0));
        Twins.alike("tell of one that holds nothing", Rows::small, y -> y.tell(0, 2));
        Twins.alike("tell to itself", Rows::small, y -> y.tell(0, 0));
    }

    private static void all160() {
        WovenRow x = Rows.full();
        Check.due("tell of 160", 160, () -> x.tell(3, 0));
        Check.due("tell of 160 again", 0, () -> x.tell(3, 0));
        Check.due("same after it", true, () -> x.same(0, 3));
        Check.counts("told of 160", x, 3, 160, 160, 160, 160);
        x.give(1, 159);
        Check.due("all but the last", 159, () -> x.tell(1, 0));
    }

    private static void noSuchReplica() {
        WovenRow x = Rows.small();
        for (int r : Rows.NO_REPLICAS) {
            Check.argument("tell to replica " + r, () -> x.tell(r, 0));
            Check.argument("tell of replica " + r, () -> x.tell(0, r));
            Check.argument("tell among replicas " + r, () -> x.tell(r, r));
        }
    }
}
