import java.util.function.LongSupplier;

/** Compares answers with those that are due, and ends a test with exit code 1 if one was not. */
final class Check {
    static final int LAST_TIME = 10000;
    private static int wrong = 0;
    private static int made = 0;
    private static String about = "";
    private static int madeBefore = 0;

    private Check() {
    }

    /** Names the sentence that the answers from here on are due to; one without an answer is a fault. */
    static void about(String sentence) {
        if (!about.isEmpty() && made == madeBefore) {
            fault("no answer was compared");
        }
        about = sentence;
        madeBefore = made;
    }

    static void fault(String what) {
        wrong++;
        System.out.println(about.isEmpty() ? what : "[" + about + "] " + what);
    }

    static void due(String call, long got, long want) {
        made++;
        if (got != want) {
            fault(call + " answered " + got + ", due is " + want);
        }
    }

    static void due(String call, boolean got, boolean want) {
        due(call, got ? 1L : 0L, want ? 1L : 0L);
    }

    /** An answer is due, and no exception of any class. */
    static void answers(String call, LongSupplier run, long want) {
        long got;
        try {
            got = run.getAsLong();
        } catch (RuntimeException e) {
            made++;
            fault(call + " threw " + e + ", due is " + want);
            return;
        }
        due(call, got, want);
    }

    /** An IllegalArgumentException of just that class is due. */
    static void noSuch(String call, LongSupplier run) {
        dueThrow(call, run, IllegalArgumentException.class);
    }

    /** An IndexOutOfBoundsException of just that class is due: the machine's own are of classes below it. */
    static void outOfBounds(String call, LongSupplier run) {
        dueThrow(call, run, IndexOutOfBoundsException.class);
    }

    private static void dueThrow(String call, LongSupplier run, Class<?> due) {
        made++;
        String got;
        try {
            got = String.valueOf(run.getAsLong());
        } catch (RuntimeException e) {
            if (e.getClass() == due) {
                return;
            }
            got = e.toString();
        }
        fault(call + " answered " + got + ", due is " + due.getName());
    }

    /** A call that asks with two times; tried with each of them out of 0 .. 10000. */
    interface Timed {
        long ask(int time, int known);
    }

    static void refusesTimes(String call, Timed run) {
        int[] none = {-1, LAST_TIME + 1, Integer.MIN_VALUE, Integer.MAX_VALUE};
        for (int bad : none) {
            noSuch(call + " time " + bad, () -> run.ask(bad, 0));
            noSuch(call + " known " + bad, () -> run.ask(0, bad));
            noSuch(call + " both " + bad, () -> run.ask(bad, bad));
        }
        run.ask(0, LAST_TIME);
        run.ask(LAST_TIME, 0);
    }

    static void end() {
        about("");
        System.out.println(made + " answers, " + wrong + " of them not as due");
        if (wrong != 0 || made == 0) {
            System.exit(1);
        }
    }
}
