import java.util.ArrayList;
import java.util.List;
import java.util.Set;
import java.util.TreeSet;

/**
 * The document's words once more, as directly as they can be written: the row of a replica is made
 * anew from what it holds at every question, so it shares no idea with the program under test.
 */
final class PlainModel {
    private record Operation(int number, boolean deletes, int target, long value, int count, int replica) {
    }

    private final List<Operation> operations = new ArrayList<>();
    private final List<Set<Integer>> held = new ArrayList<>();

    PlainModel() {
        for (int r = 0; r < 4; r++) {
            held.add(new TreeSet<>());
        }
    }

    int insert(int r, int behind, long v) {
        replica(r);
        room();
        if (behind != -1) {
            heldElement(r, behind);
        }
        return make(r, false, behind, v);
    }

    int delete(int r, int e) {
        replica(r);
        room();
        heldElement(r, e);
        return make(r, true, e, 0L);
    }

    String give(int r, int k) {
        replica(r);
        operation(k);
        if (operations.get(k).target() != -1) {
            heldElement(r, operations.get(k).target());
        }
        held.get(r).add(k);
        return "given";
    }

    int tell(int r, int s) {
        replica(r);
        replica(s);
        int before = held.get(r).size();
        held.get(r).addAll(held.get(s));
        return held.get(r).size() - before;
    }

    boolean holds(int r, int k) {
        replica(r);
        operation(k);
        return held.get(r).contains(k);
    }

    int at(int r, int k) {
        replica(r);
        List<Integer> seen = seen(r);
        return k < 0 || k >= seen.size() ? -1 : seen.get(k);
    }

    int place(int r, int e) {
        replica(r);
        operation(e);
        heldElement(r, e);
        return row(r).indexOf(e);
    }

    long value(int e) {
        operation(e);
        if (operations.get(e).deletes()) {
            throw new IndexOutOfBoundsException();
        }
        return operations.get(e).value();
    }

    int stamp(int k) {
        operation(k);
        return operations.get(k).count();
    }

    int count(int r, int what) {
        replica(r);
        return switch (what) {
            case 0 -> held.get(r).size();
            case 1 -> row(r).size();
            case 2 -> seen(r).size();
            case 3 -> greatest(r);
            default -> throw new IllegalArgumentException();
        };
    }

    boolean same(int r, int s) {
        replica(r);
        replica(s);
        return seen(r).equals(seen(s));
    }

    int size() {
        return operations.size();
    }

    private int make(int r, boolean deletes, int target, long v) {
        int k = operations.size();
        operations.add(new Operation(k, deletes, target, v, greatest(r) + 1, r));
        held.get(r).add(k);
        return k;
    }

    private int greatest(int r) {
        return held.get(r).stream().mapToInt(k -> operations.get(k).count()).max().orElse(0);
    }

    private List<Integer> row(int r) {
        List<Integer> row = new ArrayList<>();
        addAllBehind(r, -1, row);
        return row;
    }

    private void addAllBehind(int r, int behind, List<Integer> row) {
        List<Operation> there = new ArrayList<>();
        for (int k : held.get(r)) {
            Operation o = operations.get(k);
            if (!o.deletes() && o.target() == behind) {
                there.add(o);
            }
        }
        there.sort((a, b) -> a.count() != b.count() ? b.count() - a.count() : b.replica() - a.replica());
        for (Operation o : there) {
            row.add(o.number());
            addAllBehind(r, o.number(), row);
        }
    }

    private List<Integer> seen(int r) {
        List<Integer> seen = row(r);
        for (int k : held.get(r)) {
            if (operations.get(k).deletes()) {
                seen.remove((Integer) operations.get(k).target());
            }
        }
        return seen;
    }

    private void replica(int r) {
        if (r < 0 || r > 3) {
            throw new IllegalArgumentException();
        }
    }

    private void room() {
        if (operations.size() == 160) {
            throw new IndexOutOfBoundsException();
        }
    }

    private void operation(int k) {
        if (k < 0 || k >= operations.size()) {
            throw new IndexOutOfBoundsException();
        }
    }

    private void heldElement(int r, int e) {
        if (e < 0 || e >= operations.size() || operations.get(e).deletes() || !held.get(r).contains(e)) {
            throw new IllegalStateException();
        }
    }
}
