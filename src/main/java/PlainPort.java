import java.util.Arrays;

/**
 * The plain side of a harbour: a row of acts with two times, when each holds from and when it
 * was told. Every question goes over all acts anew; the rows below that are not the acts
 * themselves are only room to work in, made once so that a question makes no new objects.
 */
public final class PlainPort {
    public static final int NONE = -1;

    private static final int LAST_TIME = 10000;
    private static final int MOST_ACTS = 80;
    private static final int BOXES = 20;
    private static final int SLOTS = 100;
    private static final int SLOTS_A_LINE = 10;
    private static final int DECLARATIONS = 10;
    private static final int LAST_STATE = 5;
    private static final int MOST_CENTS = 1000000;
    private static final int ASKERS = 10;
    private static final int MOST_ASKED = 1000;
    private static final int WHOLE_QUOTA = 1000;
    private static final int MOST_BROUGHT = 6;

    private static final int PUT = 0;
    private static final int TAKE = 1;
    private static final int STATE = 2;
    private static final int CHARGE = 3;
    private static final int ASK = 4;
    private static final int VOID = 5;

    private final ActRow acts;
    private final Order order;
    private final Picture picture;
    private final Picture otherPicture;
    private final Shares shares;
    private final Bringing bringing;
    private int now;
    private int refused;

    public PlainPort() {
        acts = new ActRow();
        order = new Order();
        picture = new Picture();
        otherPicture = new Picture();
        shares = new Shares();
        bringing = new Bringing();
        now = 0;
        refused = 0;
    }

    public int event(int kind, int a, int b, int valid) {
        if (acts.isFull() || !isTime(valid) || !acts.canTell(kind, a, b)) {
            refused++;
            return NONE;
        }
        return acts.append(kind, a, b, valid, now);
    }

    public boolean known(int time) {
        if (!isTime(time) || time < now) {
            refused++;
            return false;
        }
        now = time;
        return true;
    }

    public int place(int box, int time, int known) throws IllegalArgumentException {
        requireBelow(box, BOXES);
        draw(picture, time, known);
        return picture.slots[box];
    }

    public int at(int slot, int time, int known) throws IllegalArgumentException {
        requireBelow(slot, SLOTS);
        draw(picture, time, known);
        return picture.boxIn(slot);
    }

    public int state(int declaration, int time, int known) throws IllegalArgumentException {
        requireBelow(declaration, DECLARATIONS);
        draw(picture, time, known);
        return picture.states[declaration];
    }

    public int sum(int declaration, int time, int known) throws IllegalArgumentException {
        requireBelow(declaration, DECLARATIONS);
        draw(picture, time, known);
        return picture.sums[declaration];
    }

    public int quota(int asker, int time, int known) throws IllegalArgumentException {
        requireBelow(asker, ASKERS);
        gather(time, known);
        shares.serveAll(acts, order);
        return shares.given[asker];
    }

    public int apart(int box, int other, int time, int known) throws IllegalArgumentException {
        requireBelow(box, BOXES);
        requireBelow(other, BOXES);
        draw(picture, time, known);
        int from = picture.slots[box];
        int to = picture.slots[other];
        return from == NONE || to == NONE ? NONE : distance(from, to);
    }

    public int least(int time, int known) throws IllegalArgumentException {
        draw(picture, time, known);
        return bringing.leastWay(picture);
    }

    public int look(int act, int what) throws IndexOutOfBoundsException {
        if (!acts.has(act)) {
            throw new IndexOutOfBoundsException("no such act");
        }
        switch (what) {
            case 0:
                return acts.kinds[act];
            case 1:
                return acts.as[act];
            case 2:
                return acts.bs[act];
            case 3:
                return acts.valids[act];
            case 4:
                return acts.knowns[act];
            case 5:
                return acts.isVoid(act, now) ? 1 : 0;
            default:
                throw new IndexOutOfBoundsException("no such what");
        }
    }

    public int changed(int time, int known, int other) throws IllegalArgumentException {
        draw(picture, time, known);
        draw(otherPicture, time, other);
        return picture.differencesFrom(otherPicture);
    }

    public int count(int what) {
        switch (what) {
            case 0:
                return acts.size;
            case 1:
                return now;
            case 2:
                return refused;
            case 3:
                return acts.voidsAsKnown(now);
            default:
                return NONE;
        }
    }

    private void draw(Picture target, int time, int known) {
        gather(time, known);
        target.draw(acts, order);
    }

    /** Every question with times comes by here, so that wrong times are thrown out in one place. */
    private void gather(int time, int known) {
        if (!isTime(time) || !isTime(known)) {
            throw new IllegalArgumentException("no such time");
        }
        order.gather(acts, time, known);
    }

    private static boolean isTime(int time) {
        return isWithin(time, 0, LAST_TIME);
    }

    private static boolean isWithin(int number, int first, int last) {
        return number >= first && number <= last;
    }

    private static void requireBelow(int number, int bound) {
        if (!isWithin(number, 0, bound - 1)) {
            throw new IllegalArgumentException("no such number");
        }
    }

    private static int distance(int from, int to) {
        return Math.abs(from / SLOTS_A_LINE - to / SLOTS_A_LINE)
            + Math.abs(from % SLOTS_A_LINE - to % SLOTS_A_LINE);
    }

    /** All that was told, by number. Only acts that canTell() allows come in here. */
    private static final class ActRow {
        private final int[] kinds;
        private final int[] as;
        private final int[] bs;
        private final int[] valids;
        private final int[] knowns;
        private int size;

        private ActRow() {
            kinds = new int[MOST_ACTS];
            as = new int[MOST_ACTS];
            bs = new int[MOST_ACTS];
            valids = new int[MOST_ACTS];
            knowns = new int[MOST_ACTS];
            size = 0;
        }

        private boolean isFull() {
            return size >= MOST_ACTS;
        }

        private boolean has(int act) {
            return act >= 0 && act < size;
        }

        private boolean canTell(int kind, int a, int b) {
            switch (kind) {
                case PUT:
                    return isWithin(a, 0, BOXES - 1) && isWithin(b, 0, SLOTS - 1);
                case TAKE:
                    return isWithin(a, 0, BOXES - 1) && b == 0;
                case STATE:
                    return isWithin(a, 0, DECLARATIONS - 1) && isWithin(b, 0, LAST_STATE);
                case CHARGE:
                    return isWithin(a, 0, DECLARATIONS - 1) && isWithin(b, -MOST_CENTS, MOST_CENTS);
                case ASK:
                    return isWithin(a, 0, ASKERS - 1) && isWithin(b, 1, MOST_ASKED);
                case VOID:
                    return has(a) && kinds[a] != VOID && b == 0;
                default:
                    return false;
            }
        }

        private int append(int kind, int a, int b, int valid, int knownFrom) {
            if (isFull()) {
                return NONE;
            }
            int act = size;
            kinds[act] = kind;
            as[act] = a;
            bs[act] = b;
            valids[act] = valid;
            knowns[act] = knownFrom;
            size = act + 1;
            return act;
        }

        private boolean isVoid(int act, int knownAt) {
            for (int later = act + 1; later < size; later++) {
                if (kinds[later] == VOID && as[later] == act && knowns[later] <= knownAt) {
                    return true;
                }
            }
            return false;
        }

        private int voidsAsKnown(int knownAt) {
            int voids = 0;
            for (int act = 0; act < size; act++) {
                if (isVoid(act, knownAt)) {
                    voids++;
                }
            }
            return voids;
        }

        private boolean holds(int act, int time, int knownAt) {
            return kinds[act] != VOID && valids[act] <= time && knowns[act] <= knownAt
                && !isVoid(act, knownAt);
        }

        /** By VALID, then KIND alone: Order.insert() sees to the numbers of acts alike in both. */
        private boolean goesAhead(int act, int other) {
            if (valids[act] != valids[other]) {
                return valids[act] < valids[other];
            }
            return kinds[act] < kinds[other];
        }
    }

    /** The acts as of one time and known at another, in the document's order. */
    private static final class Order {
        private final int[] numbers;
        private int size;

        private Order() {
            numbers = new int[MOST_ACTS];
            size = 0;
        }

        private void gather(ActRow acts, int time, int knownAt) {
            size = 0;
            for (int act = 0; act < acts.size; act++) {
                if (acts.holds(act, time, knownAt)) {
                    insert(acts, act);
                }
            }
        }

        /** Acts come by number, so one that is like those here in VALID and KIND stays behind them. */
        private void insert(ActRow acts, int act) {
            int spot = size;
            while (spot > 0 && acts.goesAhead(act, numbers[spot - 1])) {
                numbers[spot] = numbers[spot - 1];
                spot--;
            }
            numbers[spot] = act;
            size++;
        }
    }

    /** Where boxes lie, and how declarations stand, after all acts of an order. */
    private static final class Picture {
        private final int[] slots;
        private final int[] states;
        private final int[] sums;

        private Picture() {
            slots = new int[BOXES];
            states = new int[DECLARATIONS];
            sums = new int[DECLARATIONS];
        }

        private void draw(ActRow acts, Order order) {
            Arrays.fill(slots, NONE);
            Arrays.fill(states, 0);
            Arrays.fill(sums, 0);
            for (int i = 0; i < order.size; i++) {
                int act = order.numbers[i];
                apply(acts.kinds[act], acts.as[act], acts.bs[act]);
            }
        }

        private void apply(int kind, int a, int b) {
            switch (kind) {
                case PUT:
                    // A box put into its own slot finds it taken, by itself, and so stays there as it should.
                    if (boxIn(b) == NONE) {
                        slots[a] = b;
                    }
                    break;
                case TAKE:
                    slots[a] = NONE;
                    break;
                case STATE:
                    states[a] = Math.max(states[a], b);
                    break;
                case CHARGE:
                    sums[a] += b;
                    break;
                default:
                    break;
            }
        }

        private int boxIn(int slot) {
            for (int box = 0; box < BOXES; box++) {
                if (slots[box] == slot) {
                    return box;
                }
            }
            return NONE;
        }

        private int differencesFrom(Picture other) {
            int differences = 0;
            for (int box = 0; box < BOXES; box++) {
                if (slots[box] != other.slots[box]) {
                    differences++;
                }
            }
            for (int declaration = 0; declaration < DECLARATIONS; declaration++) {
                if (states[declaration] != other.states[declaration]
                    || sums[declaration] != other.sums[declaration]) {
                    differences++;
                }
            }
            return differences;
        }
    }

    /** What each asker has of the quota after all asks of an order. */
    private static final class Shares {
        private final int[] given;
        private final int[] asks;
        private int size;

        private Shares() {
            given = new int[ASKERS];
            asks = new int[MOST_ACTS];
            size = 0;
        }

        private void serveAll(ActRow acts, Order order) {
            Arrays.fill(given, 0);
            gatherAsks(acts, order);
            int left = WHOLE_QUOTA;
            for (int i = 0; i < size; i++) {
                if (startsTime(acts, i)) {
                    left -= serveTime(acts, i, endOfTime(acts, i), left);
                }
            }
        }

        private void gatherAsks(ActRow acts, Order order) {
            size = 0;
            for (int i = 0; i < order.size; i++) {
                if (acts.kinds[order.numbers[i]] == ASK) {
                    asks[size] = order.numbers[i];
                    size++;
                }
            }
        }

        private boolean startsTime(ActRow acts, int i) {
            return i == 0 || acts.valids[asks[i]] != acts.valids[asks[i - 1]];
        }

        private int endOfTime(ActRow acts, int from) {
            int end = from + 1;
            while (end < size && !startsTime(acts, end)) {
                end++;
            }
            return end;
        }

        /** Serves the asks from .. end - 1, which are all of one time; answers what they were given. */
        private int serveTime(ActRow acts, int from, int end, int left) {
            int wanted = 0;
            for (int i = from; i < end; i++) {
                wanted += acts.bs[asks[i]];
            }
            int spent = 0;
            for (int i = from; i < end; i++) {
                int part = share(acts.bs[asks[i]], left, wanted);
                given[acts.as[asks[i]]] += part;
                spent += part;
            }
            // Short shares are rounded down below what is wanted, so one more never gives too much.
            int most = Math.min(left, wanted);
            for (int i = from; i < end && spent < most; i++) {
                given[acts.as[asks[i]]]++;
                spent++;
            }
            return spent;
        }

        private static int share(int want, int left, int wanted) {
            if (wanted <= left || wanted <= 0) {
                return want;
            }
            return want * left / wanted;
        }
    }

    /** The least way to bring the boxes that lie to the first slots. */
    private static final class Bringing {
        private final int[] from;
        private final int[] costs;
        private int size;

        private Bringing() {
            from = new int[MOST_BROUGHT];
            costs = new int[1 << MOST_BROUGHT];
            size = 0;
        }

        private int leastWay(Picture picture) {
            if (!gatherBoxes(picture)) {
                return NONE;
            }
            int all = (1 << size) - 1;
            costs[0] = 0;
            for (int taken = 1; taken <= all; taken++) {
                costs[taken] = leastFor(taken);
            }
            return costs[all];
        }

        private boolean gatherBoxes(Picture picture) {
            size = 0;
            for (int box = 0; box < BOXES; box++) {
                if (picture.slots[box] != NONE) {
                    if (size >= MOST_BROUGHT) {
                        return false;
                    }
                    from[size] = picture.slots[box];
                    size++;
                }
            }
            return true;
        }

        /** The least cost at which the first boxes fill just the slots whose bits are set in taken. */
        private int leastFor(int taken) {
            int last = Integer.bitCount(taken) - 1;
            int best = NONE;
            for (int slot = 0; slot < size; slot++) {
                int bit = 1 << slot;
                if ((taken & bit) != 0) {
                    int cost = costs[taken ^ bit] + distance(from[last], slot);
                    best = best == NONE ? cost : Math.min(best, cost);
                }
            }
            return best;
        }
    }
}
