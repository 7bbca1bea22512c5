/** Terms: the row of a replica, and what is seen of it. */
public final class TermsRowTest {
    public static void main(String[] args) {
        Check.sentence("all ELEMENTS that it HOLDS", TermsRowTest::allThatItHolds);
        Check.sentence("those at the front first, of the greatest STAMP first",
                TermsRowTest::atTheFront);
        Check.sentence("each with all that are behind it in the same way directly behind it",
                TermsRowTest::directlyBehind);
        Check.sentence("What is SEEN of it are those that no DELETE which it HOLDS deletes",
                TermsRowTest::seen);
        Check.end();
    }

    private static void allThatItHolds() {
        WovenRow x = Rows.small();
        Check.row("empty", x, 2);
        Check.counts("empty", x, 2, 0, 0, 0, 0);
        Check.row("made and got", x, 1, 3, 0);
        x.give(2, 0);
        Check.row("one", x, 2, 0);
        WovenRow full = Rows.full();
        Check.due("full: the first", 159, () -> full.at(0, 0));
        Check.due("full: the last", 0, () -> full.at(0, 159));
        Check.due("full: another's row is empty", -1, () -> full.at(1, 0));
    }

    private static void atTheFront() {
        WovenRow x = new WovenRow();
        x.insert(1, -1, 1L);
        x.insert(2, -1, 2L);
        x.insert(1, -1, 3L);
        x.insert(0, -1, 4L);
        x.tell(3, 0);
        x.tell(3, 1);
        x.tell(3, 2);
        Check.row("stamps 2 of 1; then 1 of 2, of 1, of 0", x, 3, 2, 1, 0, 3);
    }

    /** Three levels; the numbers in the comments are count and replica of the stamps. */
    private static void directlyBehind() {
        WovenRow x = new WovenRow();
        x.insert(0, -1, 1L);            // 0: 1.0
        x.insert(3, -1, 2L);            // 1: 1.3
        x.tell(1, 0);
        x.insert(1, 0, 3L);             // 2: 2.1, behind 0
        x.insert(1, 2, 4L);             // 3: 3.1, behind 2
        x.insert(0, 0, 5L);             // 4: 2.0, behind 0
        x.insert(3, 1, 6L);             // 5: 2.3, behind 1
        x.tell(2, 1);
        x.insert(2, 2, 7L);             // 6: 4.2, behind 2
        x.insert(2, 0, 8L);             // 7: 5.2, behind 0
        x.insert(0, 4, 9L);             // 8: 3.0, behind 4
        for (int s = 0; s < Rows.REPLICAS; s++) {
            x.tell(3, s);
        }
        Check.row("three levels", x, 3, 1, 5, 0, 7, 2, 6, 3, 4, 8);
        x.tell(1, 3);
        x.insert(1, 1, 10L);            // 9: 6.1, behind 1
        Check.row("the newest directly behind its own", x, 1, 1, 9, 5, 0, 7, 2, 6, 3, 4, 8);
        Check.row("a part of it", x, 2, 0, 7, 2, 6, 3);
    }

    private static void seen() {
        WovenRow x = new WovenRow();
        x.insert(0, -1, 1L);
        x.insert(0, 0, 2L);
        x.tell(1, 0);
        x.delete(0, 0);
        Check.row("who holds the delete", x, 0, 1);
        Check.row("who does not", x, 1, 0, 1);
        x.delete(0, 1);
        Check.row("all are deleted", x, 0);
        Check.counts("all are deleted", x, 0, 4, 2, 0, 4);
        x.give(1, 3);
        Check.row("who holds the second delete alone", x, 1, 0);
        x.give(1, 2);
        Check.row("who got both", x, 1);
        Check.due("deleted ones stay in the row", 1, () -> x.place(1, 1));
    }
}
