/** Promises 6, 7 and 12: states and sums of declarations, and what two times of knowing differ in. */
public final class DeclarationsTest {
    public static void main(String[] args) {
        statesOnlyRise();
        sumsAdd();
        voidedOnesDoNotCount();
        noSuchDeclaration();
        changedCountsBoxes();
        changedCountsADeclarationOnce();
        changedIsAsOfATime();
        changedLooksAtNoQuota();
        Check.end();
    }

    private static void statesOnlyRise() {
        PlainPort x = new PlainPort();
        x.event(2, 9, 3, 5);
        x.event(2, 9, 1, 6);
        x.event(2, 9, 5, 7);
        x.event(2, 9, 0, 8);
        int[] due = {0, 3, 3, 5, 5};
        for (int i = 0; i < due.length; i++) {
            Check.due("state as of " + (4 + i), x.state(9, 4 + i, 0), due[i]);
        }
        Check.due("another's state", x.state(8, 10000, 0), 0);
        x.known(2);
        x.event(2, 9, 4, 5);
        Check.due("state before it was told", x.state(9, 5, 1), 3);
        Check.due("state when it was told", x.state(9, 5, 2), 4);
    }

    private static void sumsAdd() {
        PlainPort x = new PlainPort();
        x.event(3, 0, 1000000, 5);
        x.event(3, 0, -1000000, 6);
        x.event(3, 0, -250, 6);
        x.event(3, 9, 1, 0);
        Check.due("sum ahead", x.sum(0, 4, 0), 0);
        Check.due("sum of one", x.sum(0, 5, 0), 1000000);
        Check.due("sum of three", x.sum(0, 6, 0), -250);
        Check.due("another's sum", x.sum(9, 6, 0), 1);
        x.known(7);
        x.event(3, 0, 50, 6);
        Check.due("sum before it was told", x.sum(0, 6, 6), -250);
        Check.due("sum when it was told", x.sum(0, 6, 7), -200);
        for (int i = 0; i < 75; i++) {
            x.event(3, 4, -1000000, 0);
        }
        Check.due("a sum far below 0", x.sum(4, 0, 7), -75000000);
    }

    private static void voidedOnesDoNotCount() {
        PlainPort x = new PlainPort();
        x.event(2, 1, 4, 0);
        x.event(3, 1, 40, 0);
        x.known(3);
        x.event(5, 0, 0, 10000);
        x.known(4);
        x.event(5, 1, 0, 0);
        int[][] due = {{2, 4, 40}, {3, 0, 40}, {4, 0, 0}};
        for (int[] row : due) {
            Check.due("state known at " + row[0], x.state(1, 0, row[0]), row[1]);
            Check.due("sum known at " + row[0], x.sum(1, 0, row[0]), row[2]);
        }
    }

    private static void noSuchDeclaration() {
        PlainPort x = new PlainPort();
        int[] none = {-1, 10, Integer.MIN_VALUE, Integer.MAX_VALUE};
        for (int bad : none) {
            Check.noSuch("state " + bad, () -> x.state(bad, 0, 0));
            Check.noSuch("sum " + bad, () -> x.sum(bad, 0, 0));
        }
        Check.refusesTimes("state", (time, known) -> x.state(0, time, known));
        Check.refusesTimes("sum", (time, known) -> x.sum(9, time, known));
        Check.refusesTimes("changed, first", (time, known) -> x.changed(time, known, 0));
        Check.refusesTimes("changed, other", (time, other) -> x.changed(time, 0, other));
        Check.due("throwing is not refusing", x.count(2), 0);
    }

    private static void changedCountsBoxes() {
        PlainPort x = new PlainPort();
        x.event(0, 0, 0, 0);
        x.event(0, 1, 1, 0);
        x.event(0, 2, 2, 0);
        x.known(5);
        x.event(0, 0, 50, 1);
        x.event(1, 1, 0, 1);
        x.event(0, 19, 99, 1);
        Check.due("moved, taken, new", x.changed(1, 0, 5), 3);
        Check.due("the other way", x.changed(1, 5, 0), 3);
        Check.due("with itself", x.changed(1, 5, 5), 0);
        Check.due("with one alike", x.changed(1, 0, 4), 0);
    }

    private static void changedCountsADeclarationOnce() {
        PlainPort x = new PlainPort();
        x.event(2, 7, 2, 0);
        x.known(1);
        x.event(2, 0, 1, 0);
        x.event(3, 0, 5, 0);
        x.event(2, 1, 1, 0);
        x.event(3, 9, 5, 0);
        x.event(2, 7, 2, 0);
        x.event(3, 6, 5, 0);
        x.event(3, 6, -5, 0);
        Check.due("both, state alone, sum alone", x.changed(0, 0, 1), 3);
        x.event(0, 19, 0, 0);
        Check.due("with a box", x.changed(0, 1, 0), 4);
    }

    private static void changedIsAsOfATime() {
        PlainPort x = new PlainPort();
        x.event(3, 3, 5, 10);
        x.known(4);
        x.event(5, 0, 0, 0);
        x.event(0, 3, 5, 20);
        int[][] due = {{9, 0}, {10, 1}, {19, 1}, {20, 2}};
        for (int[] row : due) {
            Check.due("changed as of " + row[0], x.changed(row[0], 3, 4), row[1]);
        }
    }

    private static void changedLooksAtNoQuota() {
        PlainPort x = new PlainPort();
        x.known(4);
        x.event(4, 3, 5, 0);
        Check.due("an ask", x.changed(0, 0, 4), 0);
    }
}
