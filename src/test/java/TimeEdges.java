/** Edges that "What it is" and the Terms name: times, NOW, acts, AS OF, and what is refused. */
final class TimeEdges {
    private static final int NONE = Asked.NONE;
    private static final int THROWS = Asked.THROWS;

    private TimeEdges() {
    }

    static void run() {
        noneIsMinusOne();
        nothingIsKept();
        aQuestionThatThrowsLeavesNothingBehind();
        theLastCallIsAnsweredToo();
        refusedCallsUpToTheLast();
        firstAndLastTime();
        timesOutside();
        nowIsZeroAtFirst();
        nowIsTheLatestTold();
        actsAreNumberedFromZero();
        eightyActsAndNoMore();
        aFullRowStillAnswers();
        validMayBeAnyTime();
        actsAreKnownFromNowOn();
        validAtTheTimeAndBehindIt();
        knownAtTheTimeAndBehindIt();
        voidAtTheTimeOfKnowing();
        timesBehindNowMayBeAsked();
        orderIsByValidFirst();
        orderIsByKindThen();
        orderIsByNumberLast();
        refusedIsCountedOnce();
        whatThrowsIsNotRefused();
    }

    private static void noneIsMinusOne() {
        Doc.says("Terms", "The constants: `NONE = -1`: None.");
        Check.due("NONE", PlainPort.NONE, -1);
    }

    private static void nothingIsKept() {
        Doc.says("What it is", "nothing is kept between questions.");
        Asked x = new Asked();
        x.event(0, 3, 33, 5, 0);
        x.event(4, 2, 600, 5, 1);
        x.event(2, 1, 5, 5, 2);
        x.event(3, 1, 70, 5, 3);
        for (int round = 0; round < 2; round++) {
            askAsOf(x, 5, 33, 5, 70, 600, 6);
            askAsOf(x, 4, NONE, 0, 0, 0, 0);
        }
        x.event(0, 4, 33, 4, 4);
        x.event(4, 3, 900, 4, 5);
        askAsOf(x, 5, NONE, 5, 70, 100, 6);
        x.counts(6, 0, 0, 0);
    }

    private static void askAsOf(Asked x, int time, int slot, int state, int sum, int quota, int least) {
        x.place(3, time, 0, slot);
        x.state(1, time, 0, state);
        x.sum(1, time, 0, sum);
        x.quota(2, time, 0, quota);
        x.least(time, 0, least);
        x.changed(time, 0, 0, 0);
    }

    private static void aQuestionThatThrowsLeavesNothingBehind() {
        Doc.says("What it is", "nothing is kept between questions.");
        Asked x = new Asked();
        x.event(0, 3, 33, 5, 0);
        x.place(3, 5, 10001, THROWS);
        x.changed(5, 0, 10001, THROWS);
        x.place(20, 5, 0, THROWS);
        x.look(1, 0, THROWS);
        x.lies(3, 33, 5, 0);
        x.place(3, 4, 0, NONE);
        x.counts(1, 0, 0, 0);
    }

    private static void theLastCallIsAnsweredToo() {
        Doc.says("What it is", "An object is used for at most 512 calls after it has been made;");
        Asked x = new Asked();
        for (int i = 0; i < 80; i++) {
            x.event(4, i % 10, 1000, 0, i);
        }
        while (x.callsMade() < Asked.MOST_CALLS) {
            x.quota(x.callsMade() % 10, 0, 0, 100);
        }
    }

    private static void refusedCallsUpToTheLast() {
        Doc.says("What it is", "An object is used for at most 512 calls after it has been made;");
        Asked x = new Asked();
        while (x.callsMade() < Asked.MOST_CALLS - 1) {
            x.known(-1, false);
        }
        x.count(2, Asked.MOST_CALLS - 1);
    }

    private static void firstAndLastTime() {
        Doc.says("Terms", "TIMES are 0 .. 10000.");
        Asked x = new Asked();
        x.known(0, true);
        x.event(3, 0, 1, 0, 0);
        x.event(3, 0, 2, 10000, 1);
        x.known(10000, true);
        x.event(3, 0, 4, 0, 2);
        x.sum(0, 0, 0, 1);
        x.sum(0, 10000, 0, 3);
        x.sum(0, 0, 10000, 5);
        x.sum(0, 10000, 10000, 7);
    }

    private static void timesOutside() {
        Doc.says("Terms", "TIMES are 0 .. 10000.");
        Asked x = new Asked();
        int refused = 0;
        for (int no : Asked.outside(0, 10000)) {
            x.event(3, 0, 1, no, NONE);
            x.known(no, false);
            refused += 2;
            x.counts(0, 0, refused, 0);
            x.sum(0, no, 0, THROWS);
            x.sum(0, 0, no, THROWS);
        }
    }

    private static void nowIsZeroAtFirst() {
        Doc.says("Terms", "NOW is the latest that was told (0 at first).");
        Asked x = new Asked();
        x.count(1, 0);
        x.event(0, 0, 0, 7, 0);
        x.look(0, 4, 0);
        x.count(1, 0);
        x.place(0, 7, 0, 0);
    }

    private static void nowIsTheLatestTold() {
        Doc.says("Terms", "NOW is the latest that was told (0 at first).");
        Asked x = new Asked();
        x.known(1, true);
        x.known(9000, true);
        x.count(1, 9000);
        x.known(8999, false);
        x.known(10001, false);
        x.count(1, 9000);
        x.event(0, 0, 0, 10000, 0);
        x.count(1, 9000);
        x.place(0, 10000, 10000, 0);
        x.count(1, 9000);
    }

    private static final String ACTS = "ACTS 0, 1, .. (80 at most) have a KIND, two numbers a and b, "
        + "a time from which they are VALID (any), and are KNOWN from NOW on.";

    private static void actsAreNumberedFromZero() {
        Doc.says("Terms", ACTS);
        Asked x = new Asked();
        x.event(3, 9, -1000000, 8, 0);
        x.event(6, 0, 0, 0, NONE);
        x.event(5, 0, 0, 9, 1);
        x.event(3, 9, -1000000, 8, 2);
        int[][] due = {{3, 9, -1000000, 8}, {5, 0, 0, 9}, {3, 9, -1000000, 8}};
        for (int act = 0; act < due.length; act++) {
            for (int what = 0; what < due[act].length; what++) {
                x.look(act, what, due[act][what]);
            }
        }
    }

    private static void eightyActsAndNoMore() {
        Doc.says("Terms", ACTS);
        Asked x = new Asked();
        for (int act = 0; act < 80; act++) {
            x.event(0, act % 20, act, act, act);
        }
        x.event(0, 0, 0, 0, NONE);
        x.event(0, 0, 0, 0, NONE);
        x.counts(80, 0, 2, 0);
        x.look(79, 2, 79);
        x.look(79, 3, 79);
        x.look(80, 0, THROWS);
    }

    private static void aFullRowStillAnswers() {
        Doc.says("Terms", ACTS);
        Asked x = new Asked();
        x.event(0, 7, 5, 0, 0);
        for (int act = 1; act < 80; act++) {
            x.event(3, 0, 1000000, 0, act);
        }
        x.event(5, 0, 0, 0, NONE);
        x.event(1, 7, 0, 0, NONE);
        x.known(3, true);
        x.counts(80, 3, 2, 0);
        x.look(0, 5, 0);
        x.lies(7, 5, 0, 3);
        x.sum(0, 0, 0, 79000000);
        x.least(0, 0, 5);
    }

    private static void validMayBeAnyTime() {
        Doc.says("Terms", ACTS);
        Asked x = new Asked();
        x.known(5000, true);
        int[] valids = {0, 4999, 5000, 5001, 10000};
        for (int act = 0; act < valids.length; act++) {
            x.event(3, act, 1, valids[act], act);
            x.look(act, 3, valids[act]);
            x.sum(act, valids[act], 5000, 1);
            if (valids[act] > 0) {
                x.sum(act, valids[act] - 1, 5000, 0);
            }
        }
    }

    private static void actsAreKnownFromNowOn() {
        Doc.says("Terms", ACTS);
        Asked x = new Asked();
        int[] nows = {0, 1, 9999, 10000};
        for (int act = 0; act < nows.length; act++) {
            x.known(nows[act], true);
            x.event(3, act, 1, 0, act);
        }
        for (int act = 0; act < nows.length; act++) {
            x.look(act, 4, nows[act]);
            x.sum(act, 0, nows[act], 1);
            x.sum(act, 0, 10000, 1);
            if (nows[act] > 0) {
                x.sum(act, 10000, nows[act] - 1, 0);
            }
        }
    }

    private static final String AS_OF = "AS OF a time t and known at a time k: those acts with VALID not behind t, "
        + "KNOWN not behind k, that are not VOID then, in the order of VALID, then KIND, then number.";

    private static void validAtTheTimeAndBehindIt() {
        Doc.says("Terms", AS_OF);
        Asked x = new Asked();
        x.event(0, 1, 11, 6, 0);
        x.event(2, 1, 3, 6, 1);
        x.event(3, 1, 44, 6, 2);
        x.event(4, 1, 55, 6, 3);
        x.event(1, 1, 0, 7, 4);
        int[][] due = {{5, NONE, 0, 0, 0}, {6, 11, 3, 44, 55}, {7, NONE, 3, 44, 55}};
        for (int[] row : due) {
            x.place(1, row[0], 0, row[1]);
            x.state(1, row[0], 0, row[2]);
            x.sum(1, row[0], 0, row[3]);
            x.quota(1, row[0], 0, row[4]);
        }
    }

    private static void knownAtTheTimeAndBehindIt() {
        Doc.says("Terms", AS_OF);
        Asked x = new Asked();
        x.known(6, true);
        x.event(0, 1, 11, 0, 0);
        x.event(2, 1, 3, 0, 1);
        x.event(3, 1, 44, 0, 2);
        x.event(4, 1, 55, 0, 3);
        x.known(7, true);
        x.event(1, 1, 0, 0, 4);
        int[][] due = {{5, NONE, 0, 0, 0}, {6, 11, 3, 44, 55}, {7, NONE, 3, 44, 55}};
        for (int[] row : due) {
            x.place(1, 0, row[0], row[1]);
            x.state(1, 0, row[0], row[2]);
            x.sum(1, 0, row[0], row[3]);
            x.quota(1, 0, row[0], row[4]);
        }
    }

    private static void voidAtTheTimeOfKnowing() {
        Doc.says("Terms", AS_OF);
        Asked x = new Asked();
        x.event(3, 0, 5, 2, 0);
        x.known(8, true);
        x.event(5, 0, 0, 2, 1);
        x.known(9, true);
        x.sum(0, 2, 7, 5);
        x.sum(0, 2, 8, 0);
        x.sum(0, 2, 9, 0);
        x.sum(0, 10000, 7, 5);
    }

    private static void timesBehindNowMayBeAsked() {
        Doc.says("Terms", AS_OF);
        Asked x = new Asked();
        x.known(3, true);
        x.event(3, 0, 5, 3, 0);
        x.sum(0, 3, 4, 5);
        x.sum(0, 4, 3, 5);
        x.sum(0, 10000, 10000, 5);
        x.event(5, 0, 0, 3, 1);
        x.sum(0, 3, 4, 0);
    }

    private static void orderIsByValidFirst() {
        Doc.says("Terms", AS_OF);
        Asked x = new Asked();
        x.event(0, 1, 10, 9, 0);
        x.event(0, 2, 10, 8, 1);
        x.lies(2, 10, 9, 0);
        x.event(1, 2, 0, 8, 2);
        x.lies(1, 10, 9, 0);
        x.place(2, 9, 0, NONE);
        x.event(0, 3, 10, 0, 3);
        x.lies(3, 10, 9, 0);
    }

    private static void orderIsByKindThen() {
        Doc.says("Terms", AS_OF);
        Asked x = new Asked();
        x.event(1, 1, 0, 4, 0);
        x.event(0, 1, 10, 4, 1);
        x.place(1, 4, 0, NONE);
        x.event(0, 2, 20, 3, 2);
        x.event(1, 2, 0, 4, 3);
        x.event(0, 3, 20, 4, 4);
        x.place(3, 4, 0, NONE);
        x.at(20, 4, 0, NONE);
    }

    private static void orderIsByNumberLast() {
        Doc.says("Terms", AS_OF);
        Asked x = new Asked();
        x.event(0, 8, 10, 4, 0);
        x.event(0, 1, 10, 4, 1);
        x.event(0, 8, 11, 4, 2);
        x.event(0, 1, 11, 4, 3);
        x.event(0, 1, 10, 4, 4);
        x.lies(8, 11, 4, 0);
        x.lies(1, 10, 4, 0);
    }

    private static void refusedIsCountedOnce() {
        Doc.says("Terms", "REFUSED is what can't be told (counted).");
        Asked x = new Asked();
        x.count(2, 0);
        x.event(0, 0, 0, 0, 0);
        x.known(5, true);
        x.count(2, 0);
        x.event(-1, -1, -1, -1, NONE);
        x.count(2, 1);
        x.known(4, false);
        x.count(2, 2);
        x.event(5, 0, 0, 0, 1);
        x.known(5, true);
        x.counts(2, 5, 2, 1);
    }

    private static void whatThrowsIsNotRefused() {
        Doc.says("Terms", "REFUSED is what can't be told (counted).");
        Asked x = new Asked();
        x.place(20, 0, 0, THROWS);
        x.at(100, 0, 0, THROWS);
        x.state(10, 0, 0, THROWS);
        x.sum(10, 0, 0, THROWS);
        x.quota(10, 0, 0, THROWS);
        x.apart(20, 0, 0, 0, THROWS);
        x.least(-1, 0, THROWS);
        x.look(0, 0, THROWS);
        x.changed(-1, 0, 0, THROWS);
        x.count(4, NONE);
        x.count(2, 0);
    }
}
