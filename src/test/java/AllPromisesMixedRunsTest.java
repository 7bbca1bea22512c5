/** All promises: long mixed runs of calls, each answer compared with the plain model's. */
public final class AllPromisesMixedRunsTest {
    private static final int RUNS = 600;
    private static final int CALLS = 512;
    private static final int KINDS = 11;

    private final WovenRow x = new WovenRow();
    private final PlainModel model = new PlainModel();
    /** Out of 100: how many calls change the object, so that some runs get full and some do not. */
    private final int changes;
    private final int run;
    private long dice;

    private AllPromisesMixedRunsTest(int run) {
        this.run = run;
        this.dice = run * 7919L + 17L;
        this.changes = 20 + 10 * (run % 8);
    }

    public static void main(String[] args) {
        for (int run = 0; run < RUNS; run++) {
            AllPromisesMixedRunsTest test = new AllPromisesMixedRunsTest(run);
            for (int call = 0; call < CALLS; call++) {
                test.step();
            }
        }
        Check.end();
    }

    private void step() {
        int kind = roll(100) < changes ? roll(2) : roll(KINDS);
        int r = replica();
        switch (kind) {
            case 0 -> insert(r, roll(4) == 0 ? -1 : number(), number());
            case 1 -> oneOfTheRest(r);
            case 2 -> both("give", r, number(), this::give, model::give);
            case 3 -> both("tell", r, replica(), x::tell, model::tell);
            case 4 -> both("holds", r, number(), x::holds, model::holds);
            case 5 -> both("at", r, number(), x::at, model::at);
            case 6 -> both("place", r, number(), x::place, model::place);
            case 7 -> both("value", number(), 0, (e, unused) -> x.value(e), (e, unused) -> model.value(e));
            case 8 -> both("stamp", number(), 0, (k, unused) -> x.stamp(k), (k, unused) -> model.stamp(k));
            case 9 -> both("count", r, roll(6) - 1, x::count, model::count);
            default -> both("same", r, replica(), x::same, model::same);
        }
    }

    private void insert(int r, int behind, long v) {
        String call = "run " + run + ": insert(" + r + ", " + behind + ", " + v + ")";
        Check.due(call, Check.outcome(() -> model.insert(r, behind, v)), () -> x.insert(r, behind, v));
    }

    /** Deletes, gives and tells, in shares that leave some elements seen and some replicas apart. */
    private void oneOfTheRest(int r) {
        switch (roll(6)) {
            case 0, 1 -> both("delete", r, number(), x::delete, model::delete);
            case 2 -> both("tell", r, replica(), x::tell, model::tell);
            default -> both("give", r, number(), this::give, model::give);
        }
    }

    private Object give(int r, int k) {
        x.give(r, k);
        return "given";
    }

    private interface Pair {
        Object call(int a, int b);
    }

    private void both(String name, int a, int b, Pair program, Pair plain) {
        String call = "run " + run + ": " + name + "(" + a + ", " + b + ")";
        Check.due(call, Check.outcome(() -> plain.call(a, b)), () -> program.call(a, b));
    }

    private int replica() {
        return roll(40) == 0 ? roll(2) * 5 - 1 : roll(Rows.REPLICAS);
    }

    /** Mostly the number of an operation, at times one beside them. */
    private int number() {
        return roll(model.size() + 3) - (roll(12) == 0 ? 2 : 0);
    }

    private int roll(int sides) {
        dice = dice * 6364136223846793005L + 1442695040888963407L;
        return (int) ((dice >>> 33) % sides);
    }
}
