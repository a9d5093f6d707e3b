/** Promises 4, 5, 9 and 10: where boxes lie, how far apart, and the least way to the first slots. */
public final class BoxesTest {
    private static final int NONE = PlainPort.NONE;

    public static void main(String[] args) {
        aBoxLiesFromItsTime();
        aBoxIsKnownFromItsTelling();
        aTakenSlotRefuses();
        aPutMoves();
        aPutInItsOwnSlotStays();
        putsGoAheadOfTakes();
        numbersOrderWhatIsAlike();
        laterToldMayHoldEarlier();
        aVoidIsKnownFromThenOn();
        noSuchBoxOrSlot();
        distances();
        leastOfFew();
        leastIsNotTheFirstWay();
        leastOfSixAndSeven();
        Check.end();
    }

    private static void dueBoth(PlainPort x, int box, int slot, int time, int known) {
        String as = " as of " + time + " known " + known;
        Check.due("place of " + box + as, x.place(box, time, known), slot);
        Check.due("at " + slot + as, x.at(slot, time, known), box);
    }

    private static void aBoxLiesFromItsTime() {
        PlainPort x = new PlainPort();
        x.event(0, 19, 99, 5);
        Check.due("place ahead", x.place(19, 4, 0), NONE);
        Check.due("at ahead", x.at(99, 4, 0), NONE);
        dueBoth(x, 19, 99, 5, 0);
        dueBoth(x, 19, 99, 10000, 10000);
        x.event(1, 19, 0, 8);
        dueBoth(x, 19, 99, 7, 0);
        Check.due("place of one taken", x.place(19, 8, 0), NONE);
        Check.due("at of one taken", x.at(99, 8, 0), NONE);
        x.event(0, 0, 0, 0);
        dueBoth(x, 0, 0, 0, 0);
    }

    private static void aBoxIsKnownFromItsTelling() {
        PlainPort x = new PlainPort();
        x.known(6);
        x.event(0, 2, 3, 0);
        Check.due("place before it was told", x.place(2, 10000, 5), NONE);
        Check.due("at before it was told", x.at(3, 10000, 5), NONE);
        dueBoth(x, 2, 3, 0, 6);
        dueBoth(x, 2, 3, 0, 7);
    }

    private static void aTakenSlotRefuses() {
        PlainPort x = new PlainPort();
        x.event(0, 1, 10, 1);
        x.event(0, 2, 20, 1);
        x.event(0, 2, 10, 2);
        x.event(0, 3, 10, 3);
        dueBoth(x, 1, 10, 9, 0);
        dueBoth(x, 2, 20, 9, 0);
        Check.due("place of one that found no room", x.place(3, 9, 0), NONE);
    }

    private static void aPutMoves() {
        PlainPort x = new PlainPort();
        x.event(0, 1, 10, 1);
        x.event(0, 1, 11, 2);
        x.event(0, 2, 10, 3);
        dueBoth(x, 1, 11, 9, 0);
        dueBoth(x, 2, 10, 9, 0);
        Check.due("the slot it left", x.at(10, 2, 0), NONE);
    }

    private static void aPutInItsOwnSlotStays() {
        PlainPort x = new PlainPort();
        x.event(0, 1, 10, 1);
        x.event(0, 1, 10, 2);
        dueBoth(x, 1, 10, 2, 0);
        x.event(1, 5, 0, 2);
        Check.due("take of one that lies nowhere", x.place(5, 2, 0), NONE);
    }

    private static void putsGoAheadOfTakes() {
        PlainPort x = new PlainPort();
        x.event(0, 1, 10, 1);
        x.event(1, 1, 0, 5);
        x.event(0, 2, 10, 5);
        Check.due("put at the time of the take", x.place(2, 5, 0), NONE);
        Check.due("the slot after both", x.at(10, 5, 0), NONE);
        x.event(0, 3, 10, 6);
        dueBoth(x, 3, 10, 6, 0);
        x.event(0, 1, 30, 5);
        Check.due("put and taken at once", x.place(1, 5, 0), NONE);
    }

    private static void numbersOrderWhatIsAlike() {
        PlainPort x = new PlainPort();
        x.event(0, 9, 10, 4);
        x.event(0, 1, 10, 4);
        x.event(0, 0, 10, 4);
        dueBoth(x, 9, 10, 4, 0);
        x.event(5, 0, 0, 0);
        dueBoth(x, 1, 10, 4, 0);
    }

    private static void laterToldMayHoldEarlier() {
        PlainPort x = new PlainPort();
        x.event(0, 1, 10, 8);
        x.known(50);
        x.event(0, 2, 10, 3);
        dueBoth(x, 1, 10, 8, 49);
        Check.due("known before", x.place(2, 8, 49), NONE);
        dueBoth(x, 2, 10, 8, 50);
        Check.due("known after", x.place(1, 8, 50), NONE);
    }

    private static void aVoidIsKnownFromThenOn() {
        PlainPort x = new PlainPort();
        x.event(0, 1, 10, 1);
        x.known(5);
        x.event(5, 0, 0, 9999);
        dueBoth(x, 1, 10, 1, 4);
        Check.due("void", x.place(1, 1, 5), NONE);
        Check.due("void at", x.at(10, 10000, 10000), NONE);
        x.event(0, 1, 10, 2);
        dueBoth(x, 1, 10, 2, 5);
    }

    private static void noSuchBoxOrSlot() {
        PlainPort x = new PlainPort();
        x.event(0, 0, 0, 0);
        int[] noBox = {-1, 20, Integer.MIN_VALUE, Integer.MAX_VALUE};
        for (int box : noBox) {
            Check.noSuch("place " + box, () -> x.place(box, 0, 0));
            Check.noSuch("apart one " + box, () -> x.apart(box, 0, 0, 0));
            Check.noSuch("apart other " + box, () -> x.apart(0, box, 0, 0));
            Check.noSuch("apart other, one nowhere " + box, () -> x.apart(1, box, 0, 0));
        }
        int[] noSlot = {-1, 100, Integer.MIN_VALUE, Integer.MAX_VALUE};
        for (int slot : noSlot) {
            Check.noSuch("at " + slot, () -> x.at(slot, 0, 0));
        }
        Check.refusesTimes("place", (time, known) -> x.place(0, time, known));
        Check.refusesTimes("at", (time, known) -> x.at(0, time, known));
        Check.refusesTimes("apart", (time, known) -> x.apart(0, 1, time, known));
        Check.refusesTimes("least", (time, known) -> x.least(time, known));
        Check.due("throwing is not refusing", x.count(2), 0);
    }

    private static void distances() {
        PlainPort x = new PlainPort();
        x.event(0, 0, 0, 0);
        x.event(0, 19, 99, 0);
        x.event(0, 2, 9, 0);
        x.event(0, 3, 10, 2);
        Check.due("across", x.apart(0, 19, 0, 0), 18);
        Check.due("back across", x.apart(19, 0, 0, 0), 18);
        Check.due("along", x.apart(0, 2, 0, 0), 9);
        Check.due("up", x.apart(19, 2, 0, 0), 9);
        Check.due("next number, other line", x.apart(2, 3, 2, 0), 10);
        Check.due("itself", x.apart(19, 19, 0, 0), 0);
        Check.due("other not there yet", x.apart(0, 3, 1, 0), NONE);
        Check.due("first not there yet", x.apart(3, 0, 1, 0), NONE);
        Check.due("itself nowhere", x.apart(7, 7, 1, 0), NONE);
    }

    private static void leastOfFew() {
        PlainPort x = new PlainPort();
        Check.due("of none", x.least(0, 0), 0);
        x.event(0, 5, 0, 1);
        Check.due("of one that is there", x.least(1, 0), 0);
        x.event(0, 5, 99, 2);
        Check.due("of one", x.least(2, 0), 18);
        x.known(4);
        x.event(0, 6, 98, 2);
        Check.due("of one, as known then", x.least(2, 3), 18);
        Check.due("of two", x.least(2, 4), 18 + 16);
        x.event(1, 5, 0, 3);
        Check.due("after a take", x.least(3, 4), 17);
    }

    private static void leastIsNotTheFirstWay() {
        PlainPort x = new PlainPort();
        x.event(0, 0, 2, 0);
        x.event(0, 1, 1, 0);
        x.event(0, 2, 0, 0);
        Check.due("all in place, numbers turned", x.least(0, 0), 0);
        x.event(0, 2, 20, 1);
        x.event(0, 3, 0, 2);
        Check.due("slot 3 for one of four", x.least(2, 0), 2 + 3);
    }

    private static void leastOfSixAndSeven() {
        PlainPort x = new PlainPort();
        int[] slots = {95, 94, 93, 92, 91, 90, 50};
        for (int box = 0; box < slots.length; box++) {
            x.event(0, 19 - box, slots[box], box);
        }
        Check.due("of five", x.least(4, 0), 5 * 9 + 5);
        Check.due("of six", x.least(5, 0), 6 * 9);
        Check.due("of seven", x.least(6, 0), NONE);
        x.event(1, 19, 0, 7);
        Check.due("of six again", x.least(7, 0), 5 * 9 + 5 + 5);
    }
}
