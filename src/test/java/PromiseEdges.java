/** Edges that promises 1 to 13 name. */
final class PromiseEdges {
    private static final int NONE = Asked.NONE;
    private static final int THROWS = Asked.THROWS;

    private static final String EVENT = "NONE if it is REFUSED: no such kind, numbers, or VALID time, or there are 80.";
    private static final String KNOWN = "It is a time: true; else it is REFUSED: ahead of NOW, or above 10000.";
    private static final String LOOK =
        "Of an act: what 0: kind, 1: a, 2: b, 3: VALID, 4: KNOWN, 5: 1 if it is VOID as known NOW, else 0.";
    private static final String CHANGED = "What differs between two times of knowing, as of a time: "
        + "boxes that lie elsewhere, and declarations with another state or sum.";
    private static final String COUNT = "what 0: acts, 1: NOW, 2: REFUSED so far, 3: acts that are VOID as known NOW.";

    private PromiseEdges() {
    }

    static void run() {
        aNewObjectIsEmpty();
        aNewObjectHasNothingOfAnother();
        eventIsItsNumber();
        eventOfNoSuchKind();
        eventOfNoSuchNumbers();
        eventOfNoSuchValid();
        eventWhenThereAreEighty();
        aRefusedEventChangesNothing();
        knownOfNowAgain();
        knownAheadOfNow();
        knownAboveTheLast();
        knownAtTheLast();
        placeNowhere();
        placeOfNoSuchBox();
        placeOfNoSuchTime();
        atOfAnEmptySlot();
        atOfNoSuchSlotOrTime();
        stateOfOneWithoutActs();
        stateOfNoSuch();
        sumOfOneWithoutActs();
        sumOfNoSuch();
        quotaTogether();
        quotaOfNoSuch();
        apartWhenOneLiesNowhere();
        apartOfNoSuch();
        leastNotTried();
        leastOfNoSuchTime();
        lookAtTheFirstAndLast();
        lookAtVoids();
        lookAtNoSuchAct();
        lookAtNoSuchWhat();
        changedBetweenAlike();
        changedBoxes();
        changedBoxesThatLieNowhere();
        changedDeclarationsCountOnce();
        changedCountsAll();
        changedAtTheEdgesOfKnowing();
        changedOfNoSuchTime();
        countOfEach();
        countOfVoids();
        countOfAnotherWhat();
    }

    private static void aNewObjectIsEmpty() {
        Doc.says("Promise 1", "No acts; NOW 0.");
        Asked x = new Asked();
        x.counts(0, 0, 0, 0);
        for (int box = 0; box < 20; box++) {
            x.place(box, 10000, 10000, NONE);
            x.apart(box, box, 10000, 10000, NONE);
        }
        for (int slot = 0; slot < 100; slot++) {
            x.at(slot, 10000, 10000, NONE);
        }
        for (int i = 0; i < 10; i++) {
            x.state(i, 10000, 10000, 0);
            x.sum(i, 10000, 10000, 0);
            x.quota(i, 10000, 10000, 0);
        }
        x.least(10000, 10000, 0);
        x.changed(10000, 0, 10000, 0);
        x.look(0, 0, THROWS);
    }

    private static void aNewObjectHasNothingOfAnother() {
        Doc.says("Promise 1", "No acts; NOW 0.");
        Asked x = new Asked();
        x.known(9, true);
        x.event(0, 0, 0, 0, 0);
        x.event(5, 0, 0, 0, 1);
        x.event(5, 1, 0, 0, NONE);
        Asked y = new Asked();
        y.counts(0, 0, 0, 0);
        y.event(0, 1, 0, 0, 0);
        y.look(0, 4, 0);
        x.counts(2, 9, 1, 1);
        x.place(1, 0, 9, NONE);
    }

    private static void eventIsItsNumber() {
        Doc.says("Promise 2", "An ACT is told: its number;");
        Asked x = new Asked();
        int[][] told = {{0, 0, 0}, {1, 0, 0}, {2, 0, 0}, {3, 0, 0}, {4, 0, 1}, {5, 0, 0}};
        for (int act = 0; act < 78; act++) {
            int[] one = told[act % 6];
            x.event(one[0], one[1], one[2], 10000 - act, act);
        }
        x.event(5, 76, 0, 0, 78);
        x.event(0, 19, 99, 10000, 79);
        x.counts(80, 0, 0, 2);
    }

    private static void eventOfNoSuchKind() {
        Doc.says("Promise 2", EVENT);
        Asked x = new Asked();
        x.event(3, 0, 0, 0, 0);
        int refused = 0;
        for (int no : Asked.outside(0, 5)) {
            x.event(no, 0, 0, 0, NONE);
            x.event(no, 0, 1, 0, NONE);
            refused += 2;
            x.counts(1, 0, refused, 0);
        }
    }

    private static void eventOfNoSuchNumbers() {
        Doc.says("Promise 2", EVENT);
        Asked x = new Asked();
        x.event(3, 0, 0, 0, 0);
        int[][] no = {
            {0, -1, 0}, {0, 20, 0}, {0, 0, -1}, {0, 0, 100}, {1, -1, 0}, {1, 20, 0}, {1, 0, -1}, {1, 0, 1},
            {2, -1, 0}, {2, 10, 0}, {2, 0, -1}, {2, 0, 6}, {3, -1, 0}, {3, 10, 0}, {3, 0, -1000001}, {3, 0, 1000001},
            {4, -1, 1}, {4, 10, 1}, {4, 0, 0}, {4, 0, 1001}, {5, -1, 0}, {5, 1, 0}, {5, 0, -1}, {5, 0, 1},
        };
        for (int i = 0; i < no.length; i++) {
            x.event(no[i][0], no[i][1], no[i][2], 0, NONE);
            x.count(2, i + 1);
        }
        x.counts(1, 0, no.length, 0);
    }

    private static void eventOfNoSuchValid() {
        Doc.says("Promise 2", EVENT);
        Asked x = new Asked();
        x.event(3, 0, 0, 0, 0);
        int[] b = {0, 0, 0, 0, 1, 0};
        int refused = 0;
        for (int no : Asked.outside(0, 10000)) {
            for (int kind = 0; kind < 6; kind++) {
                x.event(kind, 0, b[kind], no, NONE);
                refused++;
            }
            x.counts(1, 0, refused, 0);
        }
        x.event(5, 0, 0, 10000, 1);
        x.event(3, 0, 0, 10000, 2);
    }

    private static void eventWhenThereAreEighty() {
        Doc.says("Promise 2", EVENT);
        Asked x = new Asked();
        for (int act = 0; act < 79; act++) {
            x.event(3, 0, 1, 0, act);
        }
        x.event(3, 10, 1, 0, NONE);
        x.event(3, 0, 1, 0, 79);
        x.event(3, 0, 1, 0, NONE);
        x.event(5, 79, 0, 0, NONE);
        x.known(8, true);
        x.event(3, 0, 1, 0, NONE);
        x.event(6, 0, 0, 0, NONE);
        x.counts(80, 8, 5, 0);
        x.sum(0, 0, 8, 80);
    }

    private static void aRefusedEventChangesNothing() {
        Doc.says("Promise 2", EVENT);
        Asked x = new Asked();
        x.event(0, 0, 5, 1, 0);
        x.event(0, 0, 100, 1, NONE);
        x.event(1, 0, 1, 1, NONE);
        x.event(2, 0, 6, 1, NONE);
        x.event(3, 0, 1000001, 1, NONE);
        x.event(4, 0, 1001, 1, NONE);
        x.event(5, 0, 1, 1, NONE);
        x.event(5, 0, 0, 10001, NONE);
        x.lies(0, 5, 1, 0);
        x.state(0, 1, 0, 0);
        x.sum(0, 1, 0, 0);
        x.quota(0, 1, 0, 0);
        x.look(0, 5, 0);
        x.look(1, 0, THROWS);
        x.counts(1, 0, 7, 0);
        x.event(0, 1, 6, 1, 1);
        x.lies(1, 6, 1, 0);
    }

    private static void knownOfNowAgain() {
        Doc.says("Promise 3", KNOWN);
        Asked x = new Asked();
        x.known(0, true);
        x.known(0, true);
        x.known(77, true);
        x.known(77, true);
        x.counts(0, 77, 0, 0);
    }

    private static void knownAheadOfNow() {
        Doc.says("Promise 3", KNOWN);
        Asked x = new Asked();
        x.known(-1, false);
        x.known(Integer.MIN_VALUE, false);
        x.counts(0, 0, 2, 0);
        x.known(5, true);
        x.known(4, false);
        x.known(0, false);
        x.counts(0, 5, 4, 0);
        x.event(3, 0, 1, 0, 0);
        x.look(0, 4, 5);
        x.known(6, true);
        x.counts(1, 6, 4, 0);
    }

    private static void knownAboveTheLast() {
        Doc.says("Promise 3", KNOWN);
        Asked x = new Asked();
        x.known(10001, false);
        x.known(Integer.MAX_VALUE, false);
        x.counts(0, 0, 2, 0);
        x.known(1, true);
        x.count(1, 1);
    }

    private static void knownAtTheLast() {
        Doc.says("Promise 3", KNOWN);
        Asked x = new Asked();
        x.known(10000, true);
        x.known(10000, true);
        x.known(9999, false);
        x.known(10001, false);
        x.counts(0, 10000, 2, 0);
        x.event(3, 0, 1, 0, 0);
        x.sum(0, 0, 10000, 1);
        x.sum(0, 0, 9999, 0);
    }

    private static void placeNowhere() {
        Doc.says("Promise 4", "Where a box lies; NONE if nowhere.");
        Asked x = new Asked();
        x.place(0, 0, 0, NONE);
        x.event(0, 0, 0, 1, 0);
        x.event(0, 19, 99, 1, 1);
        x.event(0, 1, 0, 1, 2);
        x.place(0, 0, 0, NONE);
        x.place(0, 1, 0, 0);
        x.place(19, 1, 0, 99);
        x.place(1, 1, 0, NONE);
        x.event(1, 0, 0, 2, 3);
        x.place(0, 2, 0, NONE);
    }

    private static void placeOfNoSuchBox() {
        Doc.says("Promise 4", "IllegalArgumentException if there is no such box, or a time is not 0 .. 10000.");
        Asked x = new Asked();
        for (int no : Asked.outside(0, 19)) {
            x.place(no, 0, 0, THROWS);
            x.place(no, 10000, 10000, THROWS);
            x.place(no, 10001, -1, THROWS);
        }
        x.place(0, 0, 0, NONE);
        x.place(19, 0, 0, NONE);
    }

    /** A question with its first and last number, to be asked at any times with what is due. */
    private interface Timed {
        void ask(Asked x, int number, int time, int known, int due);
    }

    /** Throws for each time outside, in an empty object and in a full one; answers at the edges. */
    private static void dueNoSuchTime(Timed question, int first, int last, int dueEmpty) {
        Asked full = new Asked();
        for (int act = 0; act < 80; act++) {
            full.event(0, act % 20, act, act, act);
        }
        Asked empty = new Asked();
        for (int number = first; number <= last; number += Math.max(1, last - first)) {
            for (int no : Asked.outside(0, 10000)) {
                for (Asked x : new Asked[] {empty, full}) {
                    question.ask(x, number, no, 0, THROWS);
                    question.ask(x, number, 0, no, THROWS);
                    question.ask(x, number, no, no, THROWS);
                }
            }
            question.ask(empty, number, 0, 0, dueEmpty);
            question.ask(empty, number, 10000, 0, dueEmpty);
            question.ask(empty, number, 0, 10000, dueEmpty);
            question.ask(empty, number, 10000, 10000, dueEmpty);
        }
        empty.counts(0, 0, 0, 0);
        full.counts(80, 0, 0, 0);
    }

    private static void placeOfNoSuchTime() {
        Doc.says("Promise 4", "IllegalArgumentException if there is no such box, or a time is not 0 .. 10000.");
        dueNoSuchTime(Asked::place, 0, 19, NONE);
    }

    private static void atOfAnEmptySlot() {
        Doc.says("Promise 5", "Which box lies at a slot; NONE.");
        Asked x = new Asked();
        x.at(0, 0, 0, NONE);
        x.event(0, 0, 99, 1, 0);
        x.event(0, 19, 0, 1, 1);
        x.at(99, 0, 0, NONE);
        x.at(99, 1, 0, 0);
        x.at(0, 1, 0, 19);
        x.at(1, 1, 0, NONE);
        x.at(98, 1, 0, NONE);
        x.event(0, 0, 98, 2, 2);
        x.at(99, 2, 0, NONE);
        x.at(98, 2, 0, 0);
    }

    private static void atOfNoSuchSlotOrTime() {
        Doc.says("Promise 5", "IllegalArgumentException if there is no such slot or time.");
        Asked x = new Asked();
        x.event(0, 0, 0, 0, 0);
        for (int no : Asked.outside(0, 99)) {
            x.at(no, 0, 0, THROWS);
            x.at(no, 10000, 10000, THROWS);
        }
        x.at(0, 0, 0, 0);
        x.at(99, 0, 0, NONE);
        dueNoSuchTime(Asked::at, 0, 99, NONE);
    }

    private static void stateOfOneWithoutActs() {
        Doc.says("Promise 6", "A declaration's state.");
        Asked x = new Asked();
        x.event(2, 0, 5, 1, 0);
        x.event(3, 9, 5, 1, 1);
        x.state(0, 0, 0, 0);
        x.state(0, 1, 0, 5);
        x.state(9, 1, 0, 0);
    }

    private static void stateOfNoSuch() {
        Doc.says("Promise 6", "IllegalArgumentException if there is no such declaration or time.");
        Asked x = new Asked();
        for (int no : Asked.outside(0, 9)) {
            x.state(no, 0, 0, THROWS);
        }
        dueNoSuchTime(Asked::state, 0, 9, 0);
    }

    private static void sumOfOneWithoutActs() {
        Doc.says("Promise 7", "What a declaration was charged together.");
        Asked x = new Asked();
        x.event(3, 0, 5, 1, 0);
        x.event(3, 0, -5, 2, 1);
        x.event(3, 0, -1, 3, 2);
        x.event(2, 9, 5, 1, 3);
        x.sum(0, 0, 0, 0);
        x.sum(0, 1, 0, 5);
        x.sum(0, 2, 0, 0);
        x.sum(0, 3, 0, -1);
        x.sum(9, 3, 0, 0);
    }

    private static void sumOfNoSuch() {
        Doc.says("Promise 7", "IllegalArgumentException as state().");
        Asked x = new Asked();
        for (int no : Asked.outside(0, 9)) {
            x.sum(no, 0, 0, THROWS);
        }
        dueNoSuchTime(Asked::sum, 0, 9, 0);
    }

    private static void quotaTogether() {
        Doc.says("Promise 8", "What an asker has of the quota together.");
        Asked x = new Asked();
        x.event(4, 9, 400, 0, 0);
        x.event(4, 9, 400, 1, 1);
        x.event(4, 0, 1, 1, 2);
        x.event(4, 9, 400, 2, 3);
        x.event(4, 9, 400, 3, 4);
        x.quota(9, 0, 0, 400);
        x.quota(9, 1, 0, 800);
        x.quota(9, 2, 0, 999);
        x.quota(9, 3, 0, 999);
        x.quota(0, 3, 0, 1);
        x.quota(1, 3, 0, 0);
    }

    private static void quotaOfNoSuch() {
        Doc.says("Promise 8", "IllegalArgumentException if there is no such asker or time.");
        Asked x = new Asked();
        x.event(4, 0, 1, 0, 0);
        for (int no : Asked.outside(0, 9)) {
            x.quota(no, 0, 0, THROWS);
        }
        x.quota(0, 0, 0, 1);
        dueNoSuchTime(Asked::quota, 0, 9, 0);
    }

    private static void apartWhenOneLiesNowhere() {
        Doc.says("Promise 9", "DISTANCE of two boxes; NONE if one lies nowhere.");
        Asked x = new Asked();
        x.event(0, 0, 0, 0, 0);
        x.event(0, 19, 99, 1, 1);
        x.apart(0, 19, 0, 0, NONE);
        x.apart(19, 0, 0, 0, NONE);
        x.apart(19, 19, 0, 0, NONE);
        x.apart(1, 2, 0, 0, NONE);
        x.apart(0, 0, 0, 0, 0);
        x.apart(0, 19, 1, 0, 18);
        x.apart(19, 0, 1, 0, 18);
        x.apart(19, 19, 1, 0, 0);
        x.event(1, 0, 0, 2, 2);
        x.apart(0, 19, 2, 0, NONE);
        x.apart(0, 0, 2, 0, NONE);
    }

    private static void apartOfNoSuch() {
        Doc.says("Promise 9", "IllegalArgumentException if there is no such box or time.");
        Asked x = new Asked();
        x.event(0, 0, 0, 0, 0);
        for (int no : Asked.outside(0, 19)) {
            x.apart(no, 0, 0, 0, THROWS);
            x.apart(0, no, 0, 0, THROWS);
            x.apart(1, no, 0, 0, THROWS);
            x.apart(no, no, 0, 0, THROWS);
        }
        dueNoSuchTime((y, box, time, known, due) -> y.apart(box, 19 - box, time, known, due), 0, 19, NONE);
    }

    private static void leastNotTried() {
        Doc.says("Promise 10", "LEAST; NONE if it is NOT TRIED.");
        Asked x = new Asked();
        for (int box = 0; box < 7; box++) {
            x.event(0, 2 * box, 2 * box, box, box);
        }
        // Slots 0, 2, .. 8 are in one line. The sixth is slot 10, below 0: it goes to 1 for 2, and 2, 4, 6, 8
        // go to 2, 3, 4, 5 for 6.
        int[] due = {0, 1, 3, 6, 10, 8, NONE};
        for (int time = 0; time < due.length; time++) {
            x.least(time, 0, due[time]);
        }
        x.known(1, true);
        x.event(5, 6, 0, 0, 7);
        x.least(6, 0, NONE);
        x.least(6, 1, 8);
    }

    private static void leastOfNoSuchTime() {
        Doc.says("Promise 10", "IllegalArgumentException if there is no such time.");
        dueNoSuchTime((x, number, time, known, due) -> x.least(time, known, due), 0, 0, 0);
    }

    private static void lookAtTheFirstAndLast() {
        Doc.says("Promise 11", LOOK);
        Asked x = new Asked();
        x.event(3, 9, -1000000, 10000, 0);
        for (int act = 1; act < 79; act++) {
            x.event(4, act % 10, act, act, act);
        }
        x.known(10000, true);
        x.event(0, 19, 99, 0, 79);
        int[] first = {3, 9, -1000000, 10000, 0, 0};
        int[] middle = {4, 0, 40, 40, 0, 0};
        int[] last = {0, 19, 99, 0, 10000, 0};
        for (int what = 0; what < 6; what++) {
            x.look(0, what, first[what]);
            x.look(40, what, middle[what]);
            x.look(79, what, last[what]);
        }
    }

    private static void lookAtVoids() {
        Doc.says("Promise 11", LOOK);
        Asked x = new Asked();
        x.known(2, true);
        x.event(0, 3, 4, 5, 0);
        x.event(0, 4, 5, 6, 1);
        x.look(0, 5, 0);
        x.known(9, true);
        x.event(5, 0, 0, 10000, 2);
        int[][] due = {{0, 3, 4, 5, 2, 1}, {0, 4, 5, 6, 2, 0}, {5, 0, 0, 10000, 9, 0}};
        for (int round = 0; round < 2; round++) {
            for (int act = 0; act < due.length; act++) {
                for (int what = 0; what < 6; what++) {
                    x.look(act, what, due[act][what]);
                }
            }
            x.known(10000, true);
        }
    }

    private static void lookAtNoSuchAct() {
        Doc.says("Promise 11", "IndexOutOfBoundsException if there is none such, or no such what.");
        Asked x = new Asked();
        for (int told = 0; told < 2; told++) {
            for (int no : Asked.outside(0, told - 1)) {
                for (int what = 0; what < 6; what++) {
                    x.look(no, what, THROWS);
                }
            }
            x.look(79, 0, THROWS);
            x.look(80, 0, THROWS);
            x.event(0, 0, 0, 0, told);
        }
        x.look(1, 0, 0);
        x.event(0, 0, 100, 0, NONE);
        x.look(2, 0, THROWS);
    }

    private static void lookAtNoSuchWhat() {
        Doc.says("Promise 11", "IndexOutOfBoundsException if there is none such, or no such what.");
        Asked x = new Asked();
        for (int no : Asked.outside(0, 5)) {
            x.look(0, no, THROWS);
        }
        x.event(0, 0, 0, 0, 0);
        for (int no : Asked.outside(0, 5)) {
            x.look(0, no, THROWS);
            x.look(-1, no, THROWS);
        }
        x.look(0, 0, 0);
        x.look(0, 5, 0);
        x.count(2, 0);
    }

    private static void changedBetweenAlike() {
        Doc.says("Promise 12", CHANGED);
        Asked x = new Asked();
        x.changed(0, 0, 0, 0);
        x.changed(10000, 0, 10000, 0);
        x.known(5, true);
        x.event(0, 0, 0, 3, 0);
        x.event(2, 0, 1, 3, 1);
        x.changed(3, 5, 5, 0);
        x.changed(3, 5, 10000, 0);
        x.changed(3, 0, 4, 0);
        x.changed(2, 0, 5, 0);
        x.event(4, 0, 1, 3, 2);
        x.event(2, 1, 0, 3, 3);
        x.event(3, 1, 0, 3, 4);
        x.event(1, 1, 0, 3, 5);
        x.changed(3, 0, 5, 2);
    }

    private static void changedBoxes() {
        Doc.says("Promise 12", CHANGED);
        Asked x = new Asked();
        x.event(0, 0, 0, 0, 0);
        x.event(0, 1, 1, 0, 1);
        x.event(0, 19, 99, 0, 2);
        x.known(1, true);
        x.event(0, 0, 2, 1, 3);
        x.event(0, 1, 0, 2, 4);
        x.event(0, 0, 1, 3, 5);
        x.event(0, 19, 99, 3, 6);
        x.changed(0, 0, 1, 0);
        x.changed(1, 0, 1, 1);
        x.changed(3, 0, 1, 2);
        x.changed(3, 1, 0, 2);
    }

    private static void changedBoxesThatLieNowhere() {
        Doc.says("Promise 12", CHANGED);
        Asked x = new Asked();
        x.event(0, 0, 0, 0, 0);
        x.known(1, true);
        x.event(0, 19, 99, 0, 1);
        x.known(2, true);
        x.event(1, 0, 0, 0, 2);
        x.known(3, true);
        x.event(5, 1, 0, 0, 3);
        x.changed(0, 0, 1, 1);
        x.changed(0, 1, 2, 1);
        x.changed(0, 0, 2, 2);
        x.changed(0, 2, 3, 1);
        x.changed(0, 3, 0, 1);
        x.changed(0, 3, 1, 2);
    }

    private static void changedDeclarationsCountOnce() {
        Doc.says("Promise 12", CHANGED);
        Asked x = new Asked();
        x.known(1, true);
        x.event(2, 0, 1, 0, 0);
        x.known(2, true);
        x.event(3, 9, 1, 0, 1);
        x.known(3, true);
        x.event(3, 0, -1, 0, 2);
        x.known(4, true);
        x.event(3, 0, 1, 0, 3);
        x.event(5, 0, 0, 0, 4);
        x.changed(0, 0, 1, 1);
        x.changed(0, 1, 2, 1);
        x.changed(0, 0, 2, 2);
        x.changed(0, 2, 3, 1);
        x.changed(0, 0, 3, 2);
        x.changed(0, 0, 4, 1);
        x.changed(0, 4, 3, 1);
    }

    private static void changedCountsAll() {
        Doc.says("Promise 12", CHANGED);
        Asked x = new Asked();
        x.known(1, true);
        int act = 0;
        for (int box = 0; box < 20; box++) {
            x.event(0, box, box, 0, act);
            act++;
        }
        for (int declaration = 0; declaration < 10; declaration++) {
            x.event(2, declaration, 5, 0, act);
            x.event(3, declaration, 1000000, 0, act + 1);
            act += 2;
        }
        x.changed(0, 0, 1, 30);
        x.changed(10000, 10000, 0, 30);
    }

    private static void changedAtTheEdgesOfKnowing() {
        Doc.says("Promise 12", CHANGED);
        Asked x = new Asked();
        x.known(7, true);
        x.event(3, 0, 1, 4, 0);
        x.changed(4, 6, 7, 1);
        x.changed(4, 7, 6, 1);
        x.changed(4, 5, 6, 0);
        x.changed(4, 7, 8, 0);
        x.changed(3, 6, 7, 0);
        x.changed(10000, 0, 10000, 1);
    }

    private static void changedOfNoSuchTime() {
        Doc.says("Promise 12", "IllegalArgumentException if there is no such time.");
        dueNoSuchTime((x, number, time, known, due) -> x.changed(time, known, 0, due), 0, 0, 0);
        dueNoSuchTime((x, number, time, other, due) -> x.changed(time, 0, other, due), 0, 0, 0);
        dueNoSuchTime((x, number, known, other, due) -> x.changed(0, known, other, due), 0, 0, 0);
    }

    private static void countOfEach() {
        Doc.says("Promise 13", COUNT);
        Asked x = new Asked();
        x.known(10000, true);
        for (int act = 0; act < 79; act++) {
            x.event(4, 0, 1, 0, act);
        }
        x.event(5, 78, 0, 0, 79);
        x.event(5, 77, 0, 0, NONE);
        x.known(9999, false);
        x.event(4, 0, 0, 0, NONE);
        x.counts(80, 10000, 3, 1);
    }

    private static void countOfVoids() {
        Doc.says("Promise 13", COUNT);
        Asked x = new Asked();
        for (int act = 0; act < 40; act++) {
            x.event(3, 0, 1, 0, act);
        }
        x.count(3, 0);
        for (int act = 0; act < 40; act++) {
            x.known(act, true);
            x.event(5, act, 0, 10000, 40 + act);
            x.count(3, act + 1);
        }
        Asked y = new Asked();
        y.event(3, 0, 1, 0, 0);
        y.event(5, 0, 0, 0, 1);
        y.event(5, 0, 0, 0, 2);
        y.count(3, 1);
    }

    private static void countOfAnotherWhat() {
        Doc.says("Promise 13", "NONE for another what.");
        Asked x = new Asked();
        for (int no : Asked.outside(0, 3)) {
            x.count(no, NONE);
        }
        x.counts(0, 0, 0, 0);
    }
}
