/** Promise 5, and what happens in a slot (but for collisions, which have a test of their own). */
public final class RunTest {
    public static void main(String[] args) {
        refusals();
        slotsComeInTheirOrder();
        fromTheMaster();
        sporadic();
        fromASlave();
        sharedWire();
        shortSlots();
        Check.end();
    }

    private static void refusals() {
        LinRows x = new LinRows();
        Check.due("no slots", -3, x.run(0));
        Check.due("range is before state", -2, x.run(-1));
        Check.due("range is before state", -2, x.run(1001));
        x.frame(1, 0, 1, false);
        Check.due("no slots", -3, x.run(1));
        x.slot(1, 54);
        Check.give(x, 0, 1, 1);
        Check.due("run(0)", 0, x.run(0));
        Check.due("run(-1)", -2, x.run(-1));
        Check.due("run(MIN)", -2, x.run(Integer.MIN_VALUE));
        Check.due("run(MAX)", -2, x.run(Integer.MAX_VALUE));
        Check.due("none went by", -3, x.sum(1));
        Check.due("run(1000)", 1000, x.run(1000));
    }

    private static void slotsComeInTheirOrder() {
        LinRows x = new LinRows();
        x.frame(1, 0, 1, false);
        x.slot(1, 10);
        x.slot(1, 20);
        Check.due("run(3)", 0, x.run(3));
        x.slot(1, 40);
        Check.due("run(3)", 0, x.run(3));
        Check.dueError(x, 0, 1, 1, 1, 0);
        Check.dueError(x, 1, 1, 2, 1, 10);
        Check.dueError(x, 2, 1, 1, 1, 30);
        Check.dueError(x, 3, 1, 2, 1, 40);
        Check.dueError(x, 4, 1, 3, 1, 60);
        Check.dueError(x, 5, 1, 1, 1, 100);
        Check.due("run(2): the last one has gone by", 0, x.run(2));
        x.slot(1, 80);
        Check.due("run(1): the first again, the new one behind all", 0, x.run(1));
        Check.dueError(x, 8, 1, 1, 1, 170);
    }

    private static void fromTheMaster() {
        LinRows x = new LinRows();
        x.frame(1, 0, 2, true);
        x.slot(1, 64);
        Check.give(x, 0, 1, 1, 2);
        Check.due("again and again, NEW or not", 3, x.run(3));
        Check.dueHeld(x, 1, 1, 2);
        Check.give(x, 0, 1, 3, 4);
        Check.due("run(1)", 1, x.run(1));
        Check.dueHeld(x, 1, 3, 4);
        Check.dueErrors(x, 0);
    }

    private static void sporadic() {
        LinRows x = new LinRows();
        x.frame(1, -2, 1, true);
        x.slot(1, 54);
        Check.due("nothing, and no ERROR", 0, x.run(3));
        Check.give(x, 0, 1, 8);
        Check.due("once", 1, x.run(3));
        Check.dueHeld(x, 1, 8);
        Check.give(x, 0, 1, 8);
        Check.due("the same octets are NEW again", 1, x.run(3));
        Check.dueErrors(x, 0);
    }

    private static void fromASlave() {
        LinRows x = Check.withSlaves(2);
        x.frame(1, 1, 1, true);
        x.slot(1, 54);
        Check.give(x, 2, 1, 5);
        Check.due("another's, that is NEW", 1, x.run(1));
        Check.dueHeld(x, 1, 5);
        Check.due("not NEW any more", 0, x.run(1));
        Check.dueError(x, 0, 1, 1, 1, 54);
        Check.give(x, 1, 1, 6);
        Check.due("its own, NEW or not", 3, x.run(3));
        Check.dueHeld(x, 1, 6);
        x.rate(1, 141);
        Check.due("it is deaf", 0, x.run(1));
        Check.dueError(x, 1, 1, 1, 1, 5 * 54);
        Check.dueHeld(x, 1, 6);
        Check.dueErrors(x, 2);
    }

    private static void sharedWire() {
        LinRows x = Check.withSlaves(3);
        x.frame(1, 1, 2, false);
        x.slot(1, 64);
        Check.give(x, 1, 1, 1, 2);
        Check.give(x, 2, 1, 1, 2);
        Check.due("the same octets", 1, x.run(1));
        Check.dueHeld(x, 1, 1, 2);
        Check.give(x, 2, 1, 1, 3);
        Check.due("the sum is not that of the octets", 0, x.run(1));
        Check.dueError(x, 0, 2, 1, 1, 64);
        Check.dueHeld(x, 1, 1, 2);
        Check.due("what was sent is NEW no more by ERROR 2", 1, x.run(1));
        // Sums 0, 0 and 0, but the octets together are 254 0, whose sum is 1.
        Check.give(x, 1, 1, 254, 1);
        Check.give(x, 2, 1, 255, 0);
        Check.give(x, 3, 1, 255, 255);
        Check.due("three senders", 0, x.run(1));
        Check.dueError(x, 1, 2, 1, 1, 3 * 64);
        // Sums 0xFB and 0xF3, together 0xF3, but the octets together are 4 0 with the sum 0xFB.
        Check.give(x, 1, 1, 4, 0);
        Check.give(x, 2, 1, 4, 8);
        Check.due("one sender's octets are those on the wire", 0, x.run(1));
        // Sums 254 and 254, and the octets together are 1 0 with the sum 254.
        Check.give(x, 1, 1, 255, 1);
        Check.give(x, 2, 1, 1, 0);
        Check.due("they differ, but the sum fits", 1, x.run(1));
        Check.dueHeld(x, 1, 1, 0);
        Check.due("sum", 254, x.sum(1));
        Check.dueErrors(x, 3);
    }

    private static void shortSlots() {
        for (int length = 1; length <= 8; length++) {
            LinRows x = new LinRows();
            int needed = 44 + 10 * length;
            x.frame(7, -2, length, true);
            x.slot(1, needed - 1);
            x.slot(1, needed);
            Check.due("nobody sends: no ERROR 3", 0, x.run(2));
            Check.dueErrors(x, 0);
            Check.give(x, 0, 1, new int[length]);
            Check.due("too short", 0, x.run(1));
            Check.dueError(x, 0, 3, 1, 1, 2 * needed - 1);
            Check.due("nothing is HELD", -3, x.sum(1));
            Check.due("it is NEW still, and just long enough", 1, x.run(1));
            Check.due("it is NEW no more", 0, x.run(2));
            Check.dueErrors(x, 1);
        }
    }
}
