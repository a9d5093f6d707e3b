import java.util.function.LongSupplier;

/** Compares answers with those that are due, and ends a test with exit code 1 if one was not. */
final class Check {
    static final int LAST_TIME = 10000;
    private static int wrong = 0;
    private static int made = 0;

    private Check() {
    }

    static void due(String call, long got, long want) {
        made++;
        if (got != want) {
            wrong++;
            System.out.println(call + " answered " + got + ", due is " + want);
        }
    }

    static void due(String call, boolean got, boolean want) {
        due(call, got ? 1L : 0L, want ? 1L : 0L);
    }

    /** An IllegalArgumentException of just that class is due. */
    static void noSuch(String call, LongSupplier run) {
        dueThrow(call, run, IllegalArgumentException.class);
    }

    /** An IndexOutOfBoundsException of just that class is due: the machine's own are of classes below it. */
    static void outOfBounds(String call, LongSupplier run) {
        dueThrow(call, run, IndexOutOfBoundsException.class);
    }

    private static void dueThrow(String call, LongSupplier run, Class<?> due) {
        made++;
        String got;
        try {
            got = String.valueOf(run.getAsLong());
        } catch (RuntimeException e) {
            if (e.getClass() == due) {
                return;
            }
            got = e.toString();
        }
        wrong++;
        System.out.println(call + " answered " + got + ", due is " + due.getName());
    }

    /** A call that asks with two times; tried with each of them out of 0 .. 10000. */
    interface Timed {
        long ask(int time, int known);
    }

    static void refusesTimes(String call, Timed run) {
        int[] none = {-1, LAST_TIME + 1, Integer.MIN_VALUE, Integer.MAX_VALUE};
        for (int bad : none) {
            noSuch(call + " time " + bad, () -> run.ask(bad, 0));
            noSuch(call + " known " + bad, () -> run.ask(0, bad));
            noSuch(call + " both " + bad, () -> run.ask(bad, bad));
        }
        run.ask(0, LAST_TIME);
        run.ask(LAST_TIME, 0);
    }

    static void end() {
        System.out.println(made + " answers, " + wrong + " of them not as due");
        if (wrong != 0 || made == 0) {
            System.exit(1);
        }
    }
}
