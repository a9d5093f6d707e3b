import java.util.function.LongSupplier;

/** All promises: long runs of mixed calls, right and wrong ones, each answer compared with the Model's. */
public final class ModelTest {
    private static final int RUNS = 400;
    private static final int CALLS = 512;
    private static final int[] WILD = {
        Integer.MIN_VALUE, -1000001, -1, 0, 1, 5, 6, 9, 10, 19, 20, 79, 80, 99, 100, 1000, 1001,
        9999, 10000, 10001, 1000001, Integer.MAX_VALUE,
    };

    // A fixed row of numbers, so that every run of this test makes the same calls.
    private static long seed = 20261115L;

    private static int below(int bound) {
        seed = seed * 6364136223846793005L + 1442695040888963407L;
        return (int) ((seed >>> 33) % bound);
    }

    public static void main(String[] args) {
        for (int run = 0; run < RUNS; run++) {
            oneRun(run);
        }
        Check.end();
    }

    private static void oneRun(int run) {
        PlainPort x = new PlainPort();
        Model m = new Model();
        int times = new int[] {2, 6, 30, 10001}[run % 4];
        int slots = run % 3 == 0 ? 100 : 8;
        int wildness = run % 5 == 0 ? 4 : 40;
        int mainKind = below(12);
        for (int call = 0; call < CALLS; call++) {
            String name = "run " + run + " call " + call;
            if (below(100) < 22) {
                tell(name, x, m, times, slots, wildness, mainKind);
            } else {
                ask(name, x, m, times, slots, wildness);
            }
        }
    }

    /** A number below a bound, but once in a while (one of so many) any number at all. */
    private static int some(int bound, int wildness) {
        return below(wildness) == 0 ? WILD[below(WILD.length)] : below(bound);
    }

    private static void tell(String name, PlainPort x, Model m, int times, int slots, int wild, int mainKind) {
        if (below(10) == 0) {
            int step = below(wild) == 0 ? some(times, 2) : Math.min(10000, m.count(1) + below(1 + times / 3));
            same(name + " known " + step, () -> x.known(step) ? 1 : 0, () -> m.known(step) ? 1 : 0);
            return;
        }
        int kind = mainKind < 6 && below(2) == 0 ? mainKind : some(6, wild);
        int a = some(kind == 5 ? 1 + m.count(0) : kind < 2 ? 9 + below(12) : 10, wild);
        int b = some(1, wild);
        if (b == 0) {
            b = kind == 0 ? below(slots) : kind == 2 ? below(6) : kind == 3 ? below(2000001) - 1000000
                : kind == 4 ? 1 + below(below(2) == 0 ? 1000 : 60) : 0;
        }
        int bb = b;
        int valid = some(times, wild);
        same(name + " event " + kind + " " + a + " " + b + " " + valid,
            () -> x.event(kind, a, bb, valid), () -> m.event(kind, a, bb, valid));
    }

    private static void ask(String name, PlainPort x, Model m, int times, int slots, int wild) {
        int time = some(times, wild);
        int known = below(3) == 0 ? m.count(1) : some(times, wild);
        int box = some(20, wild);
        int ten = some(10, wild);
        int other = some(20, wild);
        int slot = some(slots, wild);
        int act = some(1 + m.count(0), wild);
        int what = some(7, wild);
        int call = below(10);
        String all = name + " ask " + call + ": " + time + " " + known + " " + box + " " + ten + " " + other
            + " " + slot + " " + act + " " + what;
        switch (call) {
            case 0 -> same(all, () -> x.place(box, time, known), () -> m.place(box, time, known));
            case 1 -> same(all, () -> x.at(slot, time, known), () -> m.at(slot, time, known));
            case 2 -> same(all, () -> x.state(ten, time, known), () -> m.state(ten, time, known));
            case 3 -> same(all, () -> x.sum(ten, time, known), () -> m.sum(ten, time, known));
            case 4 -> same(all, () -> x.quota(ten, time, known), () -> m.quota(ten, time, known));
            case 5 -> same(all, () -> x.apart(box, other, time, known), () -> m.apart(box, other, time, known));
            case 6 -> same(all, () -> x.least(time, known), () -> m.least(time, known));
            case 7 -> same(all, () -> x.look(act, what), () -> m.look(act, what));
            case 8 -> same(all, () -> x.changed(time, known, other), () -> m.changed(time, known, other));
            default -> same(all, () -> x.count(what), () -> m.count(what));
        }
    }

    private static void same(String call, LongSupplier run, LongSupplier model) {
        long want;
        try {
            want = model.getAsLong();
        } catch (IllegalArgumentException e) {
            Check.noSuch(call, run);
            return;
        } catch (IndexOutOfBoundsException e) {
            Check.outOfBounds(call, run);
            return;
        }
        long got;
        try {
            got = run.getAsLong();
        } catch (RuntimeException e) {
            System.out.println(call + " threw " + e);
            got = Long.MIN_VALUE;
        }
        Check.due(call, got, want);
    }
}
