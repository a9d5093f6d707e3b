/** Edges that the Terms name of the six kinds of acts. */
final class KindEdges {
    private static final int NONE = Asked.NONE;

    private static final String PUT =
        "KINDS: 0 PUT: box a (0 .. 19) lies at slot b (0 .. 99) if nothing lies there; else it stays as it was.";
    private static final String TAKE = "1 TAKE: box a lies nowhere (b is 0).";
    private static final String STATE =
        "2 STATE: declaration a (0 .. 9) comes to state b (0 .. 5) if that is greater than its state (0 at first).";
    private static final String CHARGE = "3 CHARGE: declaration a is charged b cents (-1000000 .. 1000000).";
    private static final String ASK = "4 ASK: a quota is asked for b (1 .. 1000) by asker a (0 .. 9).";
    private static final String VOID = "5 VOID: act a is void for all that is known from then on "
        + "(b is 0; its VALID does not matter, it is in no order): an act that was told ahead, and is none of kind 5.";
    private static final String MOVE = "A PUT of a box that lies moves it (if the slot is free, or its own).";

    private KindEdges() {
    }

    static void run() {
        putOfTheFirstAndLast();
        putOutside();
        putWhereABoxLies();
        allBoxesLie();
        takeOfTheFirstAndLast();
        takeOutside();
        takeOfABoxThatLiesNowhere();
        stateOfTheFirstAndLast();
        stateOutside();
        stateThatIsNotGreater();
        chargeOfTheLeastAndMost();
        chargeOutside();
        chargesDoNotWrapAround();
        askOfTheLeastAndMost();
        askOutside();
        voidOfTheFirstAndLast();
        voidOfNoSuchAct();
        voidOfAVoid();
        voidWithAnotherB();
        voidOfOneThatIsVoid();
        voidFromThenOn();
        voidAtTheSameNow();
        voidsOwnValidDoesNotMatter();
        voidOfAPutSetsOthersFree();
        moveToAFreeSlot();
        moveToItsOwnSlot();
        moveToATakenSlot();
        moveThereAndBack();
    }

    /** The four numbers just and far outside of a's, then of b's; nothing but REFUSED may change. */
    private static void dueRefused(int kind, int[] noA, int b, int a, int[] noB) {
        Asked x = new Asked();
        x.event(3, 0, 1, 0, 0);
        int refused = 0;
        for (int no : noA) {
            x.event(kind, no, b, 0, NONE);
            refused++;
            x.counts(1, 0, refused, 0);
        }
        for (int no : noB) {
            x.event(kind, a, no, 0, NONE);
            refused++;
            x.counts(1, 0, refused, 0);
        }
        x.event(kind, a, b, 0, 1);
        x.count(2, refused);
    }

    private static void putOfTheFirstAndLast() {
        Doc.says("Terms", PUT);
        Asked x = new Asked();
        x.event(0, 0, 0, 0, 0);
        x.event(0, 19, 99, 0, 1);
        x.lies(0, 0, 0, 0);
        x.lies(19, 99, 0, 0);
        x.event(0, 0, 98, 1, 2);
        x.event(0, 19, 0, 2, 3);
        x.lies(0, 98, 2, 0);
        x.lies(19, 0, 2, 0);
    }

    private static void putOutside() {
        Doc.says("Terms", PUT);
        dueRefused(0, Asked.outside(0, 19), 99, 19, Asked.outside(0, 99));
    }

    private static void putWhereABoxLies() {
        Doc.says("Terms", PUT);
        Asked x = new Asked();
        x.event(0, 0, 50, 0, 0);
        x.event(0, 19, 51, 0, 1);
        x.event(0, 19, 50, 1, 2);
        x.event(0, 7, 50, 1, 3);
        x.lies(0, 50, 1, 0);
        x.lies(19, 51, 1, 0);
        x.place(7, 1, 0, NONE);
        x.event(0, 0, 51, 1, 4);
        x.lies(0, 50, 1, 0);
        x.lies(19, 51, 1, 0);
    }

    private static void allBoxesLie() {
        Doc.says("Terms", PUT);
        Asked x = new Asked();
        for (int box = 0; box < 20; box++) {
            x.event(0, box, 99 - box, 0, box);
        }
        for (int box = 0; box < 20; box++) {
            x.event(0, box, 99 - (box + 1) % 20, 1, 20 + box);
        }
        // Each wants the next one's slot, and none is free.
        for (int box = 0; box < 20; box++) {
            x.lies(box, 99 - box, 1, 0);
        }
        x.at(79, 1, 0, NONE);
        x.at(0, 1, 0, NONE);
    }

    private static void takeOfTheFirstAndLast() {
        Doc.says("Terms", TAKE);
        Asked x = new Asked();
        x.event(0, 0, 0, 0, 0);
        x.event(0, 19, 99, 0, 1);
        x.event(1, 0, 0, 1, 2);
        x.place(0, 1, 0, NONE);
        x.at(0, 1, 0, NONE);
        x.lies(19, 99, 1, 0);
        x.event(1, 19, 0, 2, 3);
        x.place(19, 2, 0, NONE);
        x.at(99, 2, 0, NONE);
    }

    private static void takeOutside() {
        Doc.says("Terms", TAKE);
        dueRefused(1, Asked.outside(0, 19), 0, 19, Asked.outside(0, 0));
    }

    private static void takeOfABoxThatLiesNowhere() {
        Doc.says("Terms", TAKE);
        Asked x = new Asked();
        x.event(1, 4, 0, 0, 0);
        x.place(4, 0, 0, NONE);
        x.at(0, 0, 0, NONE);
        x.event(0, 4, 0, 1, 1);
        x.event(1, 4, 0, 2, 2);
        x.event(1, 4, 0, 3, 3);
        x.place(4, 3, 0, NONE);
        x.event(0, 4, 7, 4, 4);
        x.lies(4, 7, 4, 0);
    }

    private static void stateOfTheFirstAndLast() {
        Doc.says("Terms", STATE);
        Asked x = new Asked();
        x.state(0, 10000, 0, 0);
        x.state(9, 10000, 0, 0);
        x.event(2, 0, 1, 0, 0);
        x.event(2, 9, 5, 0, 1);
        x.state(0, 0, 0, 1);
        x.state(9, 0, 0, 5);
        x.event(2, 0, 5, 1, 2);
        x.state(0, 1, 0, 5);
        x.state(8, 1, 0, 0);
    }

    private static void stateOutside() {
        Doc.says("Terms", STATE);
        dueRefused(2, Asked.outside(0, 9), 5, 9, Asked.outside(0, 5));
    }

    private static void stateThatIsNotGreater() {
        Doc.says("Terms", STATE);
        Asked x = new Asked();
        x.event(2, 0, 0, 0, 0);
        x.state(0, 0, 0, 0);
        x.event(2, 0, 4, 1, 1);
        x.event(2, 0, 4, 2, 2);
        x.event(2, 0, 3, 3, 3);
        x.event(2, 0, 0, 4, 4);
        x.state(0, 2, 0, 4);
        x.state(0, 3, 0, 4);
        x.state(0, 4, 0, 4);
        x.event(2, 0, 5, 5, 5);
        x.state(0, 5, 0, 5);
        x.event(5, 5, 0, 0, 6);
        x.event(5, 1, 0, 0, 7);
        x.event(5, 2, 0, 0, 8);
        x.state(0, 10000, 0, 3);
    }

    private static void chargeOfTheLeastAndMost() {
        Doc.says("Terms", CHARGE);
        Asked x = new Asked();
        x.event(3, 0, -1000000, 0, 0);
        x.event(3, 9, 1000000, 0, 1);
        x.event(3, 9, 0, 0, 2);
        x.sum(0, 0, 0, -1000000);
        x.sum(9, 0, 0, 1000000);
        x.look(0, 2, -1000000);
        x.look(1, 2, 1000000);
        x.look(2, 2, 0);
        x.sum(1, 0, 0, 0);
    }

    private static void chargeOutside() {
        Doc.says("Terms", CHARGE);
        dueRefused(3, Asked.outside(0, 9), 1000000, 9, Asked.outside(-1000000, 1000000));
    }

    private static void chargesDoNotWrapAround() {
        Doc.says("Terms", CHARGE);
        Asked x = new Asked();
        Asked y = new Asked();
        for (int act = 0; act < 80; act++) {
            x.event(3, 9, 1000000, act, act);
            y.event(3, 9, -1000000, act, act);
        }
        x.sum(9, 79, 0, 80000000);
        y.sum(9, 79, 0, -80000000);
        x.sum(9, 0, 0, 1000000);
        y.sum(9, 78, 0, -79000000);
    }

    private static void askOfTheLeastAndMost() {
        Doc.says("Terms", ASK);
        Asked x = new Asked();
        x.event(4, 0, 1, 0, 0);
        x.quota(0, 0, 0, 1);
        x.quota(9, 0, 0, 0);
        Asked y = new Asked();
        y.event(4, 9, 1000, 0, 0);
        y.quota(9, 0, 0, 1000);
        y.quota(0, 0, 0, 0);
    }

    private static void askOutside() {
        Doc.says("Terms", ASK);
        dueRefused(4, Asked.outside(0, 9), 1000, 9, Asked.outside(1, 1000));
    }

    private static void voidOfTheFirstAndLast() {
        Doc.says("Terms", VOID);
        Asked x = new Asked();
        x.event(3, 0, 1, 0, 0);
        x.event(3, 0, 2, 0, 1);
        x.event(3, 0, 4, 0, 2);
        x.event(5, 2, 0, 0, 3);
        x.sum(0, 0, 0, 3);
        x.event(5, 0, 0, 0, 4);
        x.sum(0, 0, 0, 2);
        x.counts(5, 0, 0, 2);
    }

    private static void voidOfNoSuchAct() {
        Doc.says("Terms", VOID);
        Asked x = new Asked();
        x.event(5, 0, 0, 0, NONE);
        x.event(3, 0, 1, 0, 0);
        for (int no : Asked.outside(0, 0)) {
            x.event(5, no, 0, 0, NONE);
        }
        x.event(5, 79, 0, 0, NONE);
        x.event(5, 80, 0, 0, NONE);
        x.counts(1, 0, 7, 0);
        x.event(3, 0, 2, 0, 1);
        x.sum(0, 0, 0, 3);
    }

    private static void voidOfAVoid() {
        Doc.says("Terms", VOID);
        Asked x = new Asked();
        x.event(3, 0, 1, 0, 0);
        x.event(5, 0, 0, 0, 1);
        x.event(5, 1, 0, 0, NONE);
        x.sum(0, 0, 0, 0);
        x.look(1, 5, 0);
        x.counts(2, 0, 1, 1);
    }

    private static void voidWithAnotherB() {
        Doc.says("Terms", VOID);
        Asked x = new Asked();
        x.event(3, 0, 1, 0, 0);
        int refused = 0;
        for (int no : Asked.outside(0, 0)) {
            x.event(5, 0, no, 0, NONE);
            refused++;
            x.counts(1, 0, refused, 0);
        }
        x.sum(0, 0, 0, 1);
    }

    private static void voidOfOneThatIsVoid() {
        Doc.says("Terms", VOID);
        Asked x = new Asked();
        x.event(3, 0, 1, 0, 0);
        x.known(4, true);
        x.event(5, 0, 0, 0, 1);
        x.known(6, true);
        x.event(5, 0, 0, 0, 2);
        x.counts(3, 6, 0, 1);
        x.sum(0, 0, 3, 1);
        x.sum(0, 0, 4, 0);
        x.sum(0, 0, 6, 0);
    }

    private static void voidFromThenOn() {
        Doc.says("Terms", VOID);
        Asked x = new Asked();
        x.event(0, 1, 10, 0, 0);
        x.event(2, 1, 5, 0, 1);
        x.event(4, 1, 5, 0, 2);
        x.known(9999, true);
        x.event(5, 0, 0, 0, 3);
        x.event(5, 1, 0, 0, 4);
        x.event(5, 2, 0, 0, 5);
        x.lies(1, 10, 0, 9998);
        x.state(1, 0, 9998, 5);
        x.quota(1, 0, 9998, 5);
        for (int known = 9999; known <= 10000; known++) {
            x.place(1, 10000, known, NONE);
            x.at(10, 10000, known, NONE);
            x.state(1, 10000, known, 0);
            x.quota(1, 10000, known, 0);
        }
    }

    private static void voidAtTheSameNow() {
        Doc.says("Terms", VOID);
        Asked x = new Asked();
        x.known(7, true);
        x.event(3, 0, 1, 0, 0);
        x.event(5, 0, 0, 0, 1);
        x.sum(0, 0, 6, 0);
        x.sum(0, 0, 7, 0);
        x.sum(0, 0, 8, 0);
        x.look(0, 5, 1);
    }

    private static void voidsOwnValidDoesNotMatter() {
        Doc.says("Terms", VOID);
        int[] valids = {0, 4, 5, 6, 10000};
        for (int valid : valids) {
            Asked x = new Asked();
            x.event(3, 0, 1, 5, 0);
            x.event(0, 2, 0, 5, 1);
            x.event(5, 0, 0, valid, 2);
            x.sum(0, 5, 0, 0);
            x.sum(0, 10000, 0, 0);
            x.lies(2, 0, 5, 0);
            x.look(2, 3, valid);
            x.count(3, 1);
        }
    }

    private static void voidOfAPutSetsOthersFree() {
        Doc.says("Terms", VOID);
        Asked x = new Asked();
        x.event(0, 1, 10, 0, 0);
        x.event(0, 2, 10, 1, 1);
        x.event(0, 1, 11, 2, 2);
        x.event(0, 3, 11, 3, 3);
        x.known(1, true);
        x.event(5, 0, 0, 0, 4);
        x.lies(1, 11, 3, 0);
        x.place(2, 3, 0, NONE);
        x.lies(2, 10, 3, 1);
        x.lies(1, 11, 3, 1);
        x.place(3, 3, 1, NONE);
    }

    private static void moveToAFreeSlot() {
        Doc.says("Terms", MOVE);
        Asked x = new Asked();
        x.event(0, 5, 0, 0, 0);
        x.event(0, 5, 99, 1, 1);
        x.lies(5, 0, 0, 0);
        x.lies(5, 99, 1, 0);
        x.at(0, 1, 0, NONE);
        x.event(0, 6, 0, 2, 2);
        x.lies(6, 0, 2, 0);
    }

    private static void moveToItsOwnSlot() {
        Doc.says("Terms", MOVE);
        Asked x = new Asked();
        x.event(0, 0, 7, 0, 0);
        x.event(0, 0, 7, 0, 1);
        x.event(0, 0, 7, 1, 2);
        x.lies(0, 7, 0, 0);
        x.lies(0, 7, 1, 0);
        x.event(0, 1, 7, 2, 3);
        x.lies(0, 7, 2, 0);
        x.place(1, 2, 0, NONE);
    }

    private static void moveToATakenSlot() {
        Doc.says("Terms", MOVE);
        Asked x = new Asked();
        x.event(0, 0, 7, 0, 0);
        x.event(0, 1, 8, 0, 1);
        x.event(0, 1, 7, 1, 2);
        x.lies(0, 7, 1, 0);
        x.lies(1, 8, 1, 0);
        x.event(1, 0, 0, 2, 3);
        x.lies(1, 8, 2, 0);
        x.event(0, 1, 7, 3, 4);
        x.lies(1, 7, 3, 0);
        x.at(8, 3, 0, NONE);
    }

    private static void moveThereAndBack() {
        Doc.says("Terms", MOVE);
        Asked x = new Asked();
        x.event(0, 0, 7, 0, 0);
        x.event(0, 0, 8, 1, 1);
        x.event(0, 0, 7, 2, 2);
        x.lies(0, 8, 1, 0);
        x.lies(0, 7, 2, 0);
        x.at(8, 2, 0, NONE);
    }
}
