/** Promise 8: what askers have of the quota. */
public final class QuotaTest {
    public static void main(String[] args) {
        allThatIsWanted();
        justTheWhole();
        sharedWhenShort();
        whatIsLeftGoesToTheFirst();
        timesAreServedInOrder();
        nothingIsLeft();
        oneAskerAsksOften();
        voidAndKnown();
        manyAsksAtOnce();
        noSuchAsker();
        Check.end();
    }

    private static void dueAll(String what, PlainPort x, int time, int known, int... due) {
        for (int asker = 0; asker < due.length; asker++) {
            Check.due(what + ", asker " + asker, x.quota(asker, time, known), due[asker]);
        }
    }

    private static PlainPort asked(int... wants) {
        PlainPort x = new PlainPort();
        for (int asker = 0; asker < wants.length; asker++) {
            x.event(4, asker, wants[asker], 3);
        }
        return x;
    }

    private static void allThatIsWanted() {
        PlainPort x = asked(1, 20, 300);
        dueAll("ahead", x, 2, 0, 0, 0, 0);
        dueAll("all", x, 3, 0, 1, 20, 300, 0);
    }

    private static void justTheWhole() {
        dueAll("one has all", asked(1000), 3, 0, 1000);
        dueAll("just enough", asked(400, 600), 3, 0, 400, 600);
        dueAll("one too many", asked(400, 601), 3, 0, 400, 600);
    }

    private static void sharedWhenShort() {
        dueAll("halves", asked(1000, 1000), 3, 0, 500, 500);
        dueAll("by want", asked(1000, 500, 500), 3, 0, 500, 250, 250);
    }

    private static void whatIsLeftGoesToTheFirst() {
        dueAll("thirds", asked(1000, 1000, 1000), 3, 0, 334, 333, 333);
        dueAll("two left", asked(500, 500, 500, 500, 500, 500), 3, 0, 167, 167, 167, 167, 166, 166);
        dueAll("first has none by share", asked(1, 1000, 1000), 3, 0, 1, 500, 499);
        PlainPort x = new PlainPort();
        x.event(4, 9, 1000, 3);
        x.event(4, 1, 1000, 3);
        x.event(4, 0, 1000, 3);
        Check.due("first by number of act", x.quota(9, 3, 0), 334);
        Check.due("not by asker", x.quota(0, 3, 0), 333);
    }

    private static void timesAreServedInOrder() {
        PlainPort x = new PlainPort();
        x.event(4, 0, 700, 20);
        x.event(4, 1, 700, 10);
        dueAll("the later has what is left", x, 20, 0, 300, 700);
        x.event(4, 2, 400, 10);
        dueAll("the earlier share first", x, 20, 0, 0, 637, 363);
        dueAll("as of the earlier", x, 19, 0, 0, 637, 363);
    }

    private static void nothingIsLeft() {
        PlainPort x = asked(1000);
        x.event(4, 1, 1000, 4);
        x.event(4, 2, 1, 4);
        x.event(4, 0, 1, 5);
        dueAll("none left", x, 10000, 0, 1000, 0, 0);
    }

    private static void oneAskerAsksOften() {
        PlainPort x = new PlainPort();
        x.event(4, 0, 900, 1);
        x.event(4, 0, 900, 1);
        x.event(4, 1, 900, 1);
        dueAll("twice at once", x, 1, 0, 334 + 333, 333);
        PlainPort y = new PlainPort();
        y.event(4, 0, 10, 1);
        y.event(4, 0, 20, 2);
        dueAll("at two times", y, 2, 0, 30);
    }

    private static void voidAndKnown() {
        PlainPort x = asked(1000, 1000);
        x.known(5);
        x.event(5, 0, 0, 10000);
        x.known(6);
        x.event(4, 2, 1000, 0);
        dueAll("at first", x, 3, 4, 500, 500, 0);
        dueAll("void", x, 3, 5, 0, 1000, 0);
        dueAll("told later, served ahead", x, 3, 6, 0, 0, 1000);
    }

    private static void manyAsksAtOnce() {
        PlainPort x = new PlainPort();
        for (int i = 0; i < 80; i++) {
            x.event(4, i % 10, 1000, 0);
        }
        // 12 each, and 40 left over: one more for each of acts 0 .. 39, four of every asker.
        dueAll("eighty", x, 0, 0, 100, 100, 100, 100, 100, 100, 100, 100, 100, 100);
    }

    private static void noSuchAsker() {
        PlainPort x = asked(5);
        int[] none = {-1, 10, Integer.MIN_VALUE, Integer.MAX_VALUE};
        for (int bad : none) {
            Check.noSuch("quota " + bad, () -> x.quota(bad, 0, 0));
        }
        Check.refusesTimes("quota", (time, known) -> x.quota(0, time, known));
        Check.due("throwing is not refusing", x.count(2), 0);
    }
}
