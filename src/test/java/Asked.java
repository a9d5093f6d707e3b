import java.util.function.LongSupplier;

/** A new PlainPort under test: each call is made with the answer that is due as its last argument. */
final class Asked {
    // Written out, and not taken from PlainPort: a wrong constant there must not hide a wrong answer.
    static final int NONE = -1;
    /** Due where the call must throw: IndexOutOfBoundsException of look(), else IllegalArgumentException. */
    static final int THROWS = Integer.MIN_VALUE;
    static final int MOST_CALLS = 512;

    private final PlainPort port = new PlainPort();
    private int calls = 0;

    /** Numbers just outside first .. last, and those as far outside as there are. */
    static int[] outside(int first, int last) {
        return new int[] {first - 1, last + 1, Integer.MIN_VALUE, Integer.MAX_VALUE};
    }

    int callsMade() {
        return calls;
    }

    void event(int kind, int a, int b, int valid, int due) {
        answer(call("event", kind, a, b, valid), () -> port.event(kind, a, b, valid), due);
    }

    void known(int time, boolean due) {
        answer(call("known", time), () -> port.known(time) ? 1 : 0, due ? 1 : 0);
    }

    void place(int box, int time, int known, int due) {
        answer(call("place", box, time, known), () -> port.place(box, time, known), due);
    }

    void at(int slot, int time, int known, int due) {
        answer(call("at", slot, time, known), () -> port.at(slot, time, known), due);
    }

    void state(int declaration, int time, int known, int due) {
        answer(call("state", declaration, time, known), () -> port.state(declaration, time, known), due);
    }

    void sum(int declaration, int time, int known, int due) {
        answer(call("sum", declaration, time, known), () -> port.sum(declaration, time, known), due);
    }

    void quota(int asker, int time, int known, int due) {
        answer(call("quota", asker, time, known), () -> port.quota(asker, time, known), due);
    }

    void apart(int box, int other, int time, int known, int due) {
        answer(call("apart", box, other, time, known), () -> port.apart(box, other, time, known), due);
    }

    void least(int time, int known, int due) {
        answer(call("least", time, known), () -> port.least(time, known), due);
    }

    void changed(int time, int known, int other, int due) {
        answer(call("changed", time, known, other), () -> port.changed(time, known, other), due);
    }

    void count(int what, int due) {
        answer(call("count", what), () -> port.count(what), due);
    }

    void look(int act, int what, int due) {
        String call = call("look", act, what);
        if (due == THROWS) {
            Check.outOfBounds(call, () -> port.look(act, what));
        } else {
            Check.answers(call, () -> port.look(act, what), due);
        }
    }

    /** A box lies at a slot, asked from both sides. */
    void lies(int box, int slot, int time, int known) {
        place(box, time, known, slot);
        at(slot, time, known, box);
    }

    void counts(int acts, int now, int refused, int voids) {
        count(0, acts);
        count(1, now);
        count(2, refused);
        count(3, voids);
    }

    private void answer(String call, LongSupplier run, int due) {
        if (due == THROWS) {
            Check.noSuch(call, run);
        } else {
            Check.answers(call, run, due);
        }
    }

    /** The call as text; counted, for what an object answers after its last call is free. */
    private String call(String name, int... numbers) {
        calls++;
        if (calls > MOST_CALLS) {
            Check.fault("this test makes more than " + MOST_CALLS + " calls of one object");
        }
        StringBuilder text = new StringBuilder(name).append('(');
        for (int i = 0; i < numbers.length; i++) {
            text.append(i == 0 ? "" : ", ").append(numbers[i]);
        }
        return text.append(')').toString();
    }
}
