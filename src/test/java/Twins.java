import java.util.ArrayList;
import java.util.List;
import java.util.function.Supplier;

/** Two objects of the same calls, and one of them with one call more, which must change nothing. */
final class Twins {
    interface Change {
        void on(WovenRow x);
    }

    private interface Question {
        Object ask(WovenRow x);
    }

    /** With the calls of any history in these tests it stays within the document's 512 calls. */
    private static final int QUESTIONS_AT_ONCE = 200;

    private Twins() {
    }

    /** That both answer every question alike, as many fresh pairs as that takes. */
    static void alike(String call, Supplier<WovenRow> history, Change change) {
        List<Question> all = questions();
        for (int from = 0; from < all.size(); from += QUESTIONS_AT_ONCE) {
            List<Question> some = all.subList(from, Math.min(from + QUESTIONS_AT_ONCE, all.size()));
            WovenRow without = history.get();
            WovenRow with = history.get();
            change.on(with);
            Check.due(call + " changes nothing", answers(without, some), () -> answers(with, some));
        }
    }

    private static String answers(WovenRow x, List<Question> questions) {
        StringBuilder text = new StringBuilder();
        for (Question q : questions) {
            text.append(Check.outcome(() -> q.ask(x))).append(' ');
        }
        return text.toString();
    }

    /** All that an object can be asked; last, what it answers to changes, which it must make alike. */
    private static List<Question> questions() {
        List<Question> all = new ArrayList<>();
        for (int k = -1; k <= Rows.MOST_OPERATIONS; k++) {
            addThoseOfNumber(all, k);
        }
        for (int r = 0; r < Rows.REPLICAS; r++) {
            addThoseOfReplica(all, r);
        }
        for (int r = 0; r < Rows.REPLICAS; r++) {
            addChangesOf(all, r);
        }
        return all;
    }

    private static void addThoseOfNumber(List<Question> all, int k) {
        all.add(x -> x.value(k));
        all.add(x -> x.stamp(k));
        for (int r = 0; r < Rows.REPLICAS; r++) {
            int replica = r;
            all.add(x -> x.holds(replica, k));
            all.add(x -> x.at(replica, k));
            all.add(x -> x.place(replica, k));
        }
    }

    private static void addThoseOfReplica(List<Question> all, int r) {
        for (int what = 0; what < 4; what++) {
            int kind = what;
            all.add(x -> x.count(r, kind));
        }
        for (int s = 0; s < Rows.REPLICAS; s++) {
            int other = s;
            all.add(x -> x.same(r, other));
        }
    }

    private static void addChangesOf(List<Question> all, int r) {
        all.add(x -> x.insert(r, -1, 77L));
        all.add(x -> x.count(r, 3));
        all.add(x -> x.delete(r, x.at(r, 0)));
        for (int s = 0; s < Rows.REPLICAS; s++) {
            int other = s;
            all.add(x -> x.tell(r, other));
            all.add(x -> x.at(r, 0));
            all.add(x -> x.at(r, 1));
        }
    }
}
