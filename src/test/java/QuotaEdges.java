/** Edges that the Terms name of QUOTA, DISTANCE and LEAST. */
final class QuotaEdges {
    private static final int NONE = Asked.NONE;

    private static final String AT_FIRST = "QUOTA: there are 1000 at first.";
    private static final String TOGETHER = "All ASKS of one VALID time are served together, times in order:";
    private static final String ENOUGH = "if they want no more than is left, each has all;";
    private static final String SHORT = "else each has its b * left / all wanted, rounded down,";
    private static final String BY_ONE = "and what is left then goes by one each to the first ones in their order, "
        + "as far as it goes";
    private static final String NOT_MORE = "(none has more than it wants).";
    private static final String DISTANCE =
        "DISTANCE of two boxes at slots s, t: |s / 10 - t / 10| + |s mod 10 - t mod 10|.";
    private static final String LEAST = "LEAST: the boxes that lie as of a time, by number, are to be brought to "
        + "slots 0, 1, 2, .. (as many as boxes), each slot one box: the least sum of DISTANCES of all ways;";
    private static final String NOT_TRIED = "with more than 6 boxes it is NOT TRIED.";

    private QuotaEdges() {
    }

    static void run() {
        aThousandAtFirst();
        askedTogether();
        timesInOrder();
        otherTimesHaveTheirOwnTurn();
        justEnough();
        justEnoughOfWhatIsLeft();
        oneTooMany();
        oneTooManyOfWhatIsLeft();
        nothingIsLeft();
        sharesOfOneAlone();
        theRestGoesByNumber();
        theRestGoesOneEach();
        theRestOfAFullRow();
        anAskerWithManyAsks();
        noneHasMoreThanItWants();
        distancesOfTheCorners();
        leastOfNoBox();
        leastOfOneBox();
        leastHasOneBoxASlot();
        leastUsesJustAsManySlots();
        leastOfAllWays();
        sixBoxesAreTried();
        sevenBoxesAreNot();
        allBoxesAreNot();
    }

    /** Asks by askers 0, 1, .. at time 3. */
    private static Asked asked(int... wants) {
        Asked x = new Asked();
        for (int asker = 0; asker < wants.length; asker++) {
            x.event(4, asker, wants[asker], 3, asker);
        }
        return x;
    }

    private static void dueAll(Asked x, int time, int... due) {
        for (int asker = 0; asker < due.length; asker++) {
            x.quota(asker, time, 0, due[asker]);
        }
    }

    private static void aThousandAtFirst() {
        Doc.says("Terms", AT_FIRST);
        dueAll(asked(1000), 3, 1000);
        dueAll(asked(999, 1), 3, 999, 1);
        Asked x = asked(1000);
        x.event(4, 1, 1, 4, 1);
        dueAll(x, 4, 1000, 0);
        Asked y = asked(999);
        y.event(4, 1, 2, 4, 1);
        dueAll(y, 4, 999, 1);
    }

    private static void askedTogether() {
        Doc.says("Terms", TOGETHER);
        Asked x = new Asked();
        x.event(4, 0, 1000, 3, 0);
        x.event(4, 1, 10, 8, 1);
        x.event(4, 2, 1000, 3, 2);
        dueAll(x, 3, 500, 0, 500);
        dueAll(x, 8, 500, 0, 500);
    }

    private static void timesInOrder() {
        Doc.says("Terms", TOGETHER);
        Asked x = new Asked();
        x.event(4, 0, 800, 10000, 0);
        x.event(4, 1, 800, 0, 1);
        dueAll(x, 0, 0, 800);
        dueAll(x, 9999, 0, 800);
        dueAll(x, 10000, 200, 800);
    }

    private static void otherTimesHaveTheirOwnTurn() {
        Doc.says("Terms", TOGETHER);
        Asked x = new Asked();
        x.event(4, 0, 600, 5, 0);
        x.event(4, 1, 600, 6, 1);
        x.event(4, 2, 600, 7, 2);
        dueAll(x, 5, 600, 0, 0);
        dueAll(x, 6, 600, 400, 0);
        dueAll(x, 7, 600, 400, 0);
    }

    private static void justEnough() {
        Doc.says("Terms", ENOUGH);
        dueAll(asked(333, 333, 333), 3, 333, 333, 333);
        dueAll(asked(333, 333, 334), 3, 333, 333, 334);
        dueAll(asked(100, 100, 100, 100, 100, 100, 100, 100, 100, 100), 3,
            100, 100, 100, 100, 100, 100, 100, 100, 100, 100);
    }

    private static void justEnoughOfWhatIsLeft() {
        Doc.says("Terms", ENOUGH);
        Asked x = asked(993);
        x.event(4, 1, 3, 4, 1);
        x.event(4, 2, 4, 4, 2);
        dueAll(x, 4, 993, 3, 4);
        x.event(4, 3, 1, 5, 3);
        dueAll(x, 5, 993, 3, 4, 0);
    }

    private static void oneTooMany() {
        Doc.says("Terms", SHORT);
        // 333 * 1000 / 1001 is 332 and some, 335 * 1000 / 1001 is 334 and some: 332 + 332 + 334 leave 2.
        dueAll(asked(333, 333, 335), 3, 333, 333, 334);
        // 999 * 1000 / 1001 is 998 and some, 2 * 1000 / 1001 is 1 and some: 1 is left.
        dueAll(asked(999, 2), 3, 999, 1);
        dueAll(asked(2, 999), 3, 2, 998);
    }

    private static void oneTooManyOfWhatIsLeft() {
        Doc.says("Terms", SHORT);
        Asked x = asked(990);
        x.event(4, 1, 1, 4, 1);
        x.event(4, 2, 10, 4, 2);
        // 1 * 10 / 11 is 0, 10 * 10 / 11 is 9: the one that is left goes to the first.
        dueAll(x, 4, 990, 1, 9);
    }

    private static void nothingIsLeft() {
        Doc.says("Terms", SHORT);
        Asked x = asked(1000, 1000);
        x.event(4, 2, 1000, 4, 2);
        x.event(4, 3, 1, 4, 3);
        x.event(4, 0, 1, 10000, 4);
        dueAll(x, 10000, 500, 500, 0, 0);
    }

    private static void sharesOfOneAlone() {
        Doc.says("Terms", SHORT);
        Asked x = asked(1);
        x.event(4, 1, 1000, 4, 1);
        dueAll(x, 4, 1, 999);
    }

    private static void theRestGoesByNumber() {
        Doc.says("Terms", BY_ONE);
        Asked x = new Asked();
        x.event(4, 9, 1000, 3, 0);
        x.event(4, 4, 1000, 3, 1);
        x.event(4, 0, 1000, 3, 2);
        x.quota(9, 3, 0, 334);
        x.quota(4, 3, 0, 333);
        x.quota(0, 3, 0, 333);
    }

    private static void theRestGoesOneEach() {
        Doc.says("Terms", BY_ONE);
        // 1000 / 7 is 142: six are left for seven asks.
        dueAll(asked(1000, 1000, 1000, 1000, 1000, 1000, 1000), 3, 143, 143, 143, 143, 143, 143, 142);
        // 1000 / 8 is 125: none is left.
        dueAll(asked(1000, 1000, 1000, 1000, 1000, 1000, 1000, 1000), 3, 125, 125, 125, 125, 125, 125, 125, 125);
        // 1000 / 9 is 111: one is left.
        dueAll(asked(1000, 1000, 1000, 1000, 1000, 1000, 1000, 1000, 1000), 3,
            112, 111, 111, 111, 111, 111, 111, 111, 111);
    }

    private static void theRestOfAFullRow() {
        Doc.says("Terms", BY_ONE);
        Asked x = new Asked();
        for (int act = 0; act < 80; act++) {
            x.event(4, act / 8, 1000, 10000, act);
        }
        // 12 each, and 40 are left: one more for each of acts 0 .. 39, which are those of askers 0 .. 4.
        dueAll(x, 10000, 104, 104, 104, 104, 104, 96, 96, 96, 96, 96);
        dueAll(x, 9999, 0, 0, 0, 0, 0, 0, 0, 0, 0, 0);
    }

    private static void anAskerWithManyAsks() {
        Doc.says("Terms", BY_ONE);
        Asked x = new Asked();
        x.event(4, 1, 500, 3, 0);
        x.event(4, 0, 500, 3, 1);
        x.event(4, 1, 500, 3, 2);
        x.event(4, 0, 500, 3, 3);
        x.event(4, 1, 500, 3, 4);
        x.event(4, 0, 500, 3, 5);
        // 166 each, and 4 are left: for acts 0 .. 3, two of each asker.
        dueAll(x, 3, 500, 500);
        x.event(5, 5, 0, 0, 6);
        dueAll(x, 3, 400, 600);
    }

    private static void noneHasMoreThanItWants() {
        Doc.says("Terms", NOT_MORE);
        Asked x = asked(997);
        for (int asker = 1; asker < 6; asker++) {
            x.event(4, asker, 1, 4, asker);
        }
        dueAll(x, 4, 997, 1, 1, 1, 0, 0);
        dueAll(asked(1, 1, 1000), 3, 1, 1, 998);
    }

    private static void distancesOfTheCorners() {
        Doc.says("Terms", DISTANCE);
        Asked x = new Asked();
        int[] slots = {0, 9, 90, 99, 10};
        for (int box = 0; box < slots.length; box++) {
            x.event(0, box, slots[box], 0, box);
        }
        int[][] due = {{0, 9, 9, 18, 1}, {9, 0, 18, 9, 10}, {9, 18, 0, 9, 8}, {18, 9, 9, 0, 17}, {1, 10, 8, 17, 0}};
        for (int box = 0; box < slots.length; box++) {
            for (int other = 0; other < slots.length; other++) {
                x.apart(box, other, 0, 0, due[box][other]);
            }
        }
    }

    private static void leastOfNoBox() {
        Doc.says("Terms", LEAST);
        Asked x = new Asked();
        x.least(0, 0, 0);
        x.event(0, 3, 99, 5, 0);
        x.event(1, 3, 0, 6, 1);
        x.least(4, 0, 0);
        x.least(5, 0, 18);
        x.least(6, 0, 0);
    }

    private static void leastOfOneBox() {
        Doc.says("Terms", LEAST);
        for (int slot = 0; slot < 100; slot += 9) {
            Asked x = new Asked();
            x.event(0, 19, slot, 0, 0);
            x.least(0, 0, slot / 10 + slot % 10);
        }
    }

    private static void leastHasOneBoxASlot() {
        Doc.says("Terms", LEAST);
        Asked x = new Asked();
        x.event(0, 0, 10, 0, 0);
        x.event(0, 1, 20, 0, 1);
        // Both are nearest to slot 0, and only one has it.
        x.least(0, 0, 1 + 3);
    }

    private static void leastUsesJustAsManySlots() {
        Doc.says("Terms", LEAST);
        Asked x = new Asked();
        x.event(0, 0, 5, 0, 0);
        x.event(0, 1, 4, 0, 1);
        x.event(0, 2, 3, 0, 2);
        // 3, 4, 5 are to be brought to 0, 1, 2, and not left where they are.
        x.least(0, 0, 9);
        x.event(0, 3, 0, 1, 3);
        x.event(0, 4, 1, 1, 4);
        x.event(0, 5, 2, 1, 5);
        x.least(1, 0, 0);
    }

    private static void leastOfAllWays() {
        Doc.says("Terms", LEAST);
        Asked x = new Asked();
        x.event(0, 0, 1, 0, 0);
        x.event(0, 1, 11, 0, 1);
        x.event(0, 2, 0, 0, 2);
        // Box i to slot i, or each in turn to the nearest free slot (the lower of two), takes 4.
        x.least(0, 0, 2);
        x.event(0, 2, 2, 1, 3);
        // Here the higher of two as near takes 4.
        x.least(1, 0, 2);
    }

    private static Asked withBoxes(int boxes) {
        Asked x = new Asked();
        for (int box = 0; box < boxes; box++) {
            x.event(0, 19 - box, 90 + box % 10 - box / 10 * 10, 0, box);
        }
        return x;
    }

    private static void sixBoxesAreTried() {
        Doc.says("Terms", NOT_TRIED);
        withBoxes(5).least(0, 0, 5 * 9);
        withBoxes(6).least(0, 0, 6 * 9);
        Asked x = withBoxes(7);
        x.event(1, 19, 0, 1, 7);
        // Slots 91 .. 96 are brought to 0 .. 5.
        x.least(1, 0, 6 * 9 + 6);
        x.event(5, 1, 0, 0, 8);
        x.least(0, 0, 6 * 9 + 5);
    }

    private static void sevenBoxesAreNot() {
        Doc.says("Terms", NOT_TRIED);
        withBoxes(7).least(0, 0, NONE);
        Asked x = withBoxes(6);
        x.event(0, 0, 6, 1, 6);
        x.least(0, 0, 6 * 9);
        x.least(1, 0, NONE);
    }

    private static void allBoxesAreNot() {
        Doc.says("Terms", NOT_TRIED);
        for (int boxes = 8; boxes <= 20; boxes++) {
            withBoxes(boxes).least(0, 0, NONE);
        }
    }
}
