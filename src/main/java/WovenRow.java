/**
 * Several replicas change one row without asking one another; whoever holds the same changes sees
 * the same row.
 */
public final class WovenRow {
    private static final int REPLICAS = 4;
    private static final int MOST_OPERATIONS = 160;
    private static final int FRONT = -1;

    private int made;
    private final boolean[] isDelete;
    /** The element that an operation speaks of; FRONT for an insert at the front. */
    private final int[] target;
    private final long[] number;
    private final int[] stampCount;
    private final int[] maker;

    /** Bit r stands for replica r: it holds the operation. */
    private final int[] holders;
    /** Bit r stands for replica r: it holds a delete of the element. */
    private final int[] deleters;
    private final int[] greatestCount;

    /**
     * The elements of all replicas in one row. A replica never holds an element without the one
     * that it is behind, so its own row is this one without the elements that it does not hold.
     */
    private final int[] row;
    private int rowLength;

    public WovenRow() {
        made = 0;
        isDelete = new boolean[MOST_OPERATIONS];
        target = new int[MOST_OPERATIONS];
        number = new long[MOST_OPERATIONS];
        stampCount = new int[MOST_OPERATIONS];
        maker = new int[MOST_OPERATIONS];
        holders = new int[MOST_OPERATIONS];
        deleters = new int[MOST_OPERATIONS];
        greatestCount = new int[REPLICAS];
        row = new int[MOST_OPERATIONS];
        rowLength = 0;
    }

    public int insert(int r, int behind, long v)
            throws IllegalArgumentException, IndexOutOfBoundsException, IllegalStateException {
        checkReplica(r);
        checkRoom();
        if (behind != FRONT) {
            checkHeldElement(r, behind);
        }
        int k = make(r, behind, false);
        number[k] = v;
        weave(k);
        return k;
    }

    public int delete(int r, int e)
            throws IllegalArgumentException, IndexOutOfBoundsException, IllegalStateException {
        checkReplica(r);
        checkRoom();
        checkHeldElement(r, e);
        return make(r, e, true);
    }

    public void give(int r, int k)
            throws IllegalArgumentException, IndexOutOfBoundsException, IllegalStateException {
        checkReplica(r);
        checkOperation(k);
        if (target[k] != FRONT) {
            checkHeldElement(r, target[k]);
        }
        take(r, k);
    }

    public int tell(int r, int s) throws IllegalArgumentException {
        checkReplica(r);
        checkReplica(s);
        int taken = 0;
        for (int k = 0; k < made; k++) {
            if (isHeld(s, k) && !isHeld(r, k)) {
                take(r, k);
                taken++;
            }
        }
        return taken;
    }

    public boolean holds(int r, int k) throws IllegalArgumentException, IndexOutOfBoundsException {
        checkReplica(r);
        checkOperation(k);
        return isHeld(r, k);
    }

    public int at(int r, int k) throws IllegalArgumentException {
        checkReplica(r);
        int seenBefore = 0;
        for (int i = 0; i < rowLength; i++) {
            if (isSeen(r, row[i])) {
                if (seenBefore == k) {
                    return row[i];
                }
                seenBefore++;
            }
        }
        return -1;
    }

    public int place(int r, int e)
            throws IllegalArgumentException, IndexOutOfBoundsException, IllegalStateException {
        checkReplica(r);
        checkOperation(e);
        checkHeldElement(r, e);
        int heldBefore = 0;
        for (int i = 0; i < rowLength && row[i] != e; i++) {
            if (isHeld(r, row[i])) {
                heldBefore++;
            }
        }
        return heldBefore;
    }

    public long value(int e) throws IndexOutOfBoundsException {
        if (!isElement(e)) {
            throw new IndexOutOfBoundsException("no such element");
        }
        return number[e];
    }

    public int stamp(int k) throws IndexOutOfBoundsException {
        checkOperation(k);
        return stampCount[k];
    }

    public int count(int r, int what) throws IllegalArgumentException {
        checkReplica(r);
        switch (what) {
            case 0:
                return countHeldOperations(r);
            case 1:
                return countHeldElements(r);
            case 2:
                return countSeen(r);
            case 3:
                return greatestCount[r];
            default:
                throw new IllegalArgumentException("no such count");
        }
    }

    public boolean same(int r, int s) throws IllegalArgumentException {
        checkReplica(r);
        checkReplica(s);
        // Both rows are parts of one row, so the order can't differ where the elements agree.
        for (int i = 0; i < rowLength; i++) {
            if (isSeen(r, row[i]) != isSeen(s, row[i])) {
                return false;
            }
        }
        return true;
    }

    private void checkReplica(int r) {
        if (r < 0 || r >= REPLICAS) {
            throw new IllegalArgumentException("no such replica");
        }
    }

    private void checkRoom() {
        if (made >= MOST_OPERATIONS) {
            throw new IndexOutOfBoundsException("no room for another operation");
        }
    }

    private void checkOperation(int k) {
        if (!isOperation(k)) {
            throw new IndexOutOfBoundsException("no such operation");
        }
    }

    private void checkHeldElement(int r, int e) {
        if (!isElement(e) || !isHeld(r, e)) {
            throw new IllegalStateException("the replica holds no such element");
        }
    }

    private boolean isOperation(int k) {
        return k >= 0 && k < made;
    }

    private boolean isElement(int k) {
        return isOperation(k) && !isDelete[k];
    }

    private boolean isHeld(int r, int k) {
        return (holders[k] & bitOf(r)) != 0;
    }

    private boolean isSeen(int r, int e) {
        return isHeld(r, e) && (deleters[e] & bitOf(r)) == 0;
    }

    private static int bitOf(int r) {
        return 1 << r;
    }

    /** Makes the next operation and lets its replica hold it: its number. */
    private int make(int r, int spokenOf, boolean deletes) {
        int k = made;
        isDelete[k] = deletes;
        target[k] = spokenOf;
        stampCount[k] = greatestCount[r] + 1;
        maker[k] = r;
        made++;
        take(r, k);
        return k;
    }

    private void take(int r, int k) {
        holders[k] |= bitOf(r);
        if (isDelete[k]) {
            deleters[target[k]] |= bitOf(r);
        }
        greatestCount[r] = Math.max(greatestCount[r], stampCount[k]);
    }

    private void weave(int e) {
        int position = positionBehind(target[e]);
        // An element's stamp is greater than that of the one it is behind, so this steps over the
        // greater neighbours with all that is behind them, and over nothing else.
        while (position < rowLength && isGreater(row[position], e)) {
            position++;
        }
        for (int i = rowLength; i > position; i--) {
            row[i] = row[i - 1];
        }
        row[position] = e;
        rowLength++;
    }

    /** FRONT is in no place of the row, so the search for it ends at the row's front. */
    private int positionBehind(int e) {
        int position = rowLength;
        while (position > 0 && row[position - 1] != e) {
            position--;
        }
        return position;
    }

    private boolean isGreater(int a, int b) {
        if (stampCount[a] != stampCount[b]) {
            return stampCount[a] > stampCount[b];
        }
        return maker[a] > maker[b];
    }

    private int countHeldOperations(int r) {
        int held = 0;
        for (int k = 0; k < made; k++) {
            if (isHeld(r, k)) {
                held++;
            }
        }
        return held;
    }

    private int countHeldElements(int r) {
        int held = 0;
        for (int i = 0; i < rowLength; i++) {
            if (isHeld(r, row[i])) {
                held++;
            }
        }
        return held;
    }

    private int countSeen(int r) {
        int seen = 0;
        for (int i = 0; i < rowLength; i++) {
            if (isSeen(r, row[i])) {
                seen++;
            }
        }
        return seen;
    }
}
