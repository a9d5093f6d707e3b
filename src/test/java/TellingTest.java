/** Promises 1, 2, 3, 11 and 13: what is told, refused, looked at and counted. */
public final class TellingTest {
    private static final int MIN = Integer.MIN_VALUE;
    private static final int MAX = Integer.MAX_VALUE;

    public static void main(String[] args) {
        aNewObjectIsEmpty();
        objectsShareNothing();
        eventsAreNumbered();
        edgesOfNumbersAreTold();
        wrongEventsAreRefused();
        voidsNeedAnEarlierAct();
        eightyActsAtMost();
        nowGoesForwardAlone();
        lookTellsAnAct();
        lookTellsVoids();
        lookOutOfBounds();
        countsCount();
        Check.end();
    }

    private static void aNewObjectIsEmpty() {
        PlainPort x = new PlainPort();
        for (int what = 0; what < 4; what++) {
            Check.due("new count(" + what + ")", x.count(what), 0);
        }
        Check.outOfBounds("new look(0, 0)", () -> x.look(0, 0));
        for (int box = 0; box < 20; box++) {
            Check.due("new place", x.place(box, 10000, 10000), PlainPort.NONE);
        }
        for (int slot = 0; slot < 100; slot++) {
            Check.due("new at", x.at(slot, 10000, 10000), PlainPort.NONE);
        }
        for (int i = 0; i < 10; i++) {
            Check.due("new state", x.state(i, 10000, 10000), 0);
            Check.due("new sum", x.sum(i, 10000, 10000), 0);
            Check.due("new quota", x.quota(i, 10000, 10000), 0);
        }
        Check.due("new apart", x.apart(0, 1, 0, 0), PlainPort.NONE);
        Check.due("new least", x.least(0, 0), 0);
        Check.due("new changed", x.changed(0, 0, 10000), 0);
    }

    private static void objectsShareNothing() {
        PlainPort x = new PlainPort();
        PlainPort y = new PlainPort();
        x.known(7);
        x.event(0, 1, 2, 3);
        x.event(9, 0, 0, 0);
        for (int what = 0; what < 4; what++) {
            Check.due("other count(" + what + ")", y.count(what), 0);
        }
        Check.due("other place", y.place(1, 10000, 10000), PlainPort.NONE);
    }

    private static void eventsAreNumbered() {
        PlainPort x = new PlainPort();
        Check.due("first", x.event(0, 0, 0, 0), 0);
        Check.due("refused", x.event(-1, 0, 0, 0), PlainPort.NONE);
        Check.due("second", x.event(4, 0, 1, 10000), 1);
        Check.due("the same again", x.event(4, 0, 1, 10000), 2);
        Check.due("acts", x.count(0), 3);
        Check.due("refused so far", x.count(2), 1);
    }

    private static void edgesOfNumbersAreTold() {
        int[][] good = {
            {0, 0, 0, 0}, {0, 19, 99, 10000}, {1, 0, 0, 0}, {1, 19, 0, 10000},
            {2, 0, 0, 0}, {2, 9, 5, 10000}, {3, 0, -1000000, 0}, {3, 9, 1000000, 10000},
            {4, 0, 1, 0}, {4, 9, 1000, 10000}, {5, 0, 0, 0}, {5, 9, 0, 10000}, {5, 9, 0, 1},
        };
        PlainPort x = new PlainPort();
        for (int i = 0; i < good.length; i++) {
            int[] e = good[i];
            Check.due("good event " + i, x.event(e[0], e[1], e[2], e[3]), i);
        }
        Check.due("none refused", x.count(2), 0);
    }

    private static void wrongEventsAreRefused() {
        int[][] bad = {
            {-1, 0, 0, 0}, {6, 0, 0, 0}, {MIN, 0, 0, 0}, {MAX, 0, 0, 0},
            {0, -1, 0, 0}, {0, 20, 0, 0}, {0, MIN, 0, 0}, {0, MAX, 0, 0}, {0, 0, -1, 0}, {0, 0, 100, 0},
            {1, -1, 0, 0}, {1, 20, 0, 0}, {1, 0, 1, 0}, {1, 0, -1, 0},
            {2, -1, 0, 0}, {2, 10, 0, 0}, {2, 0, -1, 0}, {2, 0, 6, 0},
            {3, -1, 0, 0}, {3, 10, 0, 0}, {3, 0, -1000001, 0}, {3, 0, 1000001, 0}, {3, 0, MIN, 0},
            {4, -1, 1, 0}, {4, 10, 1, 0}, {4, 0, 0, 0}, {4, 0, 1001, 0}, {4, 0, -1, 0},
            {5, -1, 0, 0}, {5, 1, 0, 0}, {5, 0, 1, 0}, {5, 0, -1, 0}, {5, MIN, 0, 0}, {5, MAX, 0, 0},
            {0, 0, 0, -1}, {0, 0, 0, 10001}, {0, 0, 0, MIN}, {0, 0, 0, MAX}, {5, 0, 0, -1}, {5, 0, 0, 10001},
        };
        PlainPort x = new PlainPort();
        x.event(0, 0, 0, 0);
        for (int i = 0; i < bad.length; i++) {
            int[] e = bad[i];
            Check.due("bad event " + i, x.event(e[0], e[1], e[2], e[3]), PlainPort.NONE);
            Check.due("refused after bad event " + i, x.count(2), i + 1);
        }
        Check.due("acts after bad events", x.count(0), 1);
    }

    private static void voidsNeedAnEarlierAct() {
        PlainPort x = new PlainPort();
        Check.due("void of itself", x.event(5, 0, 0, 0), PlainPort.NONE);
        x.event(3, 0, 5, 0);
        Check.due("void", x.event(5, 0, 0, 0), 1);
        Check.due("void of a void", x.event(5, 1, 0, 0), PlainPort.NONE);
        Check.due("void of one to come", x.event(5, 2, 0, 0), PlainPort.NONE);
        Check.due("void of one that is void", x.event(5, 0, 0, 0), 2);
        Check.due("voids", x.count(3), 1);
        Check.due("refused", x.count(2), 3);
    }

    private static void eightyActsAtMost() {
        PlainPort x = new PlainPort();
        for (int i = 0; i < 80; i++) {
            Check.due("act " + i, x.event(3, 0, 1000000, 0), i);
        }
        Check.due("act 80", x.event(3, 0, 1, 0), PlainPort.NONE);
        Check.due("a void as act 80", x.event(5, 0, 0, 0), PlainPort.NONE);
        Check.due("acts", x.count(0), 80);
        Check.due("refused", x.count(2), 2);
        Check.due("sum of eighty", x.sum(0, 0, 0), 80000000);
        Check.due("look at the last", x.look(79, 2), 1000000);
        Check.outOfBounds("look(80, 0)", () -> x.look(80, 0));
    }

    private static void nowGoesForwardAlone() {
        PlainPort x = new PlainPort();
        Check.due("known(0)", x.known(0), true);
        Check.due("known(5)", x.known(5), true);
        Check.due("known(5) again", x.known(5), true);
        Check.due("known(4)", x.known(4), false);
        Check.due("known(-1)", x.known(-1), false);
        Check.due("known(MIN)", x.known(MIN), false);
        Check.due("known(10001)", x.known(10001), false);
        Check.due("known(MAX)", x.known(MAX), false);
        Check.due("NOW", x.count(1), 5);
        Check.due("refused", x.count(2), 5);
        Check.due("known(10000)", x.known(10000), true);
        Check.due("NOW at last", x.count(1), 10000);
        Check.due("known(9999)", x.known(9999), false);
        Check.due("NOW stays", x.count(1), 10000);
    }

    private static void lookTellsAnAct() {
        PlainPort x = new PlainPort();
        x.known(12);
        x.event(3, 4, -77, 9000);
        x.known(13);
        x.event(0, 5, 66, 7);
        int[][] due = {{3, 4, -77, 9000, 12, 0}, {0, 5, 66, 7, 13, 0}};
        for (int act = 0; act < due.length; act++) {
            for (int what = 0; what < 6; what++) {
                Check.due("look(" + act + ", " + what + ")", x.look(act, what), due[act][what]);
            }
        }
    }

    private static void lookTellsVoids() {
        PlainPort x = new PlainPort();
        x.event(0, 0, 0, 0);
        x.event(0, 1, 1, 0);
        x.event(0, 2, 2, 0);
        Check.due("not void yet", x.look(1, 5), 0);
        x.known(3);
        x.event(5, 1, 0, 10000);
        Check.due("void", x.look(1, 5), 1);
        Check.due("the one ahead", x.look(0, 5), 0);
        Check.due("the one behind", x.look(2, 5), 0);
        Check.due("the void itself", x.look(3, 5), 0);
        x.known(9);
        Check.due("void later too", x.look(1, 5), 1);
        Check.due("voids", x.count(3), 1);
    }

    private static void lookOutOfBounds() {
        PlainPort x = new PlainPort();
        x.event(0, 0, 0, 0);
        int[] none = {-1, 1, 79, 80, MIN, MAX};
        for (int act : none) {
            for (int what = -1; what < 7; what++) {
                int w = what;
                Check.outOfBounds("look(" + act + ", " + w + ")", () -> x.look(act, w));
            }
        }
        int[] noWhat = {-1, 6, MIN, MAX};
        for (int what : noWhat) {
            Check.outOfBounds("look(0, " + what + ")", () -> x.look(0, what));
        }
        Check.due("throwing is not refusing", x.count(2), 0);
    }

    private static void countsCount() {
        PlainPort x = new PlainPort();
        x.known(44);
        for (int i = 0; i < 5; i++) {
            x.event(4, i, 1, 1);
        }
        x.event(5, 4, 0, 0);
        x.event(5, 0, 0, 0);
        x.known(1);
        int[] due = {7, 44, 1, 2};
        for (int what = 0; what < 4; what++) {
            Check.due("count(" + what + ")", x.count(what), due[what]);
        }
        int[] none = {-1, 4, MIN, MAX};
        for (int what : none) {
            Check.due("count(" + what + ")", x.count(what), PlainPort.NONE);
        }
    }
}
