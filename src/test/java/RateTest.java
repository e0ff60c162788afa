/**
 * Promise 12: "A slave's clock is off by so many permille: 1 it HEARS, 0 not. -1 there is no slave,
 * -2 it is not -1000 .. 1000." and "one that does not never answers" of the terms.
 */
public final class RateTest {
    public static void main(String[] args) {
        tooFast();
        tooSlow();
        lowestPermille();
        highestPermille();
        slaveIsUnknown();
        masterIsNoSlave();
        slaveBehindTheLastOfSixteen();
        unknownIsBeforeRange();
        refusalLeavesTheClock();
        hearsAtFirst();
        deafForItsOwnFrame();
        deafForAnothersFrame();
        deafForAnyFrame();
        deafForTheAnswer();
        Check.end();
    }

    private static void tooFast() {
        LinRows x = Check.withSlaves(1);
        Check.due("0", 1, x.rate(1, 0));
        Check.due("140", 1, x.rate(1, 140));
        Check.due("141", 0, x.rate(1, 141));
    }

    private static void tooSlow() {
        LinRows x = Check.withSlaves(1);
        Check.due("-140", 1, x.rate(1, -140));
        Check.due("-141", 0, x.rate(1, -141));
    }

    private static void lowestPermille() {
        LinRows x = Check.withSlaves(1);
        Check.due("-1000", 0, x.rate(1, -1000));
        Check.due("-1001", -2, x.rate(1, -1001));
        Check.due("MIN", -2, x.rate(1, Integer.MIN_VALUE));
    }

    private static void highestPermille() {
        LinRows x = Check.withSlaves(1);
        Check.due("1000", 0, x.rate(1, 1000));
        Check.due("1001", -2, x.rate(1, 1001));
        Check.due("MAX", -2, x.rate(1, Integer.MAX_VALUE));
    }

    private static void slaveIsUnknown() {
        Check.due("no slaves", -1, new LinRows().rate(1, 0));
        LinRows x = Check.withSlaves(2);
        Check.due("slave 3", -1, x.rate(3, 0));
        Check.due("slave 11: that is an address", -1, x.rate(11, 0));
        Check.due("slave -1", -1, x.rate(-1, 0));
        Check.due("slave MIN", -1, x.rate(Integer.MIN_VALUE, 0));
        Check.due("slave MAX", -1, x.rate(Integer.MAX_VALUE, 0));
        Check.due("slave 2", 1, x.rate(2, 0));
    }

    private static void masterIsNoSlave() {
        LinRows x = Check.withSlaves(1);
        Check.due("rate(0, 0)", -1, x.rate(0, 0));
        Check.due("rate(0, 141)", -1, x.rate(0, 141));
        x.sleep();
        Check.due("it wakes the wire still", 100, x.wake(0));
    }

    private static void slaveBehindTheLastOfSixteen() {
        LinRows x = Check.withSlaves(16);
        Check.due("slave 17", -1, x.rate(17, 0));
        Check.due("slave 16", 1, x.rate(16, 0));
    }

    private static void unknownIsBeforeRange() {
        LinRows x = Check.withSlaves(2);
        Check.due("slave 3, 1001", -1, x.rate(3, 1001));
        Check.due("slave 0, -1001", -1, x.rate(0, -1001));
    }

    private static void refusalLeavesTheClock() {
        LinRows x = Check.withSlaves(2);
        x.rate(1, 141);
        Check.due("1001", -2, x.rate(1, 1001));
        Check.due("-1001", -2, x.rate(2, -1001));
        x.sleep();
        Check.due("1 is deaf still", -3, x.wake(1));
        Check.due("2 hears still", 108, x.wake(2));
    }

    private static void hearsAtFirst() {
        LinRows x = Check.withSlaves(1);
        x.frame(1, 1, 1, false);
        x.slot(1, 54);
        Check.give(x, 1, 1, 7);
        Check.due("run(1)", 1, x.run(1));
    }

    private static void deafForItsOwnFrame() {
        LinRows x = Check.withSlaves(1);
        x.frame(1, 1, 1, false);
        x.slot(1, 54);
        Check.give(x, 1, 1, 7);
        x.rate(1, 141);
        Check.due("deaf", 0, x.run(1));
        Check.dueError(x, 0, 1, 1, 1, 0);
        x.rate(1, 140);
        Check.due("it HEARS", 1, x.run(1));
        x.rate(1, -141);
        Check.due("deaf", 0, x.run(1));
        Check.dueError(x, 1, 1, 1, 1, 108);
        x.rate(1, -140);
        Check.due("it HEARS", 1, x.run(1));
        Check.dueErrors(x, 2);
    }

    private static void deafForAnothersFrame() {
        LinRows x = Check.withSlaves(2);
        x.frame(1, 1, 1, false);
        x.slot(1, 54);
        Check.give(x, 1, 1, 0x0F);
        Check.give(x, 2, 1, 0xF0);
        x.rate(2, 141);
        Check.due("1 alone", 1, x.run(1));
        Check.dueHeld(x, 1, 0x0F);
        x.rate(1, 141);
        x.rate(2, 140);
        Check.due("2 alone: its octets stayed NEW", 1, x.run(1));
        Check.dueHeld(x, 1, 0xF0);
        Check.dueErrors(x, 0);
    }

    private static void deafForAnyFrame() {
        LinRows x = Check.withSlaves(2);
        x.frame(1, -1, 1, false);
        x.slot(1, 54);
        Check.give(x, 1, 1, 1);
        Check.give(x, 2, 1, 2);
        x.rate(1, 141);
        x.rate(2, -141);
        Check.due("both are deaf, no ERROR", 0, x.run(1));
        x.rate(2, -140);
        Check.due("one alone is no collision", 1, x.run(1));
        Check.dueHeld(x, 1, 2);
        x.rate(1, 140);
        Check.due("what 1 has stayed NEW", 1, x.run(1));
        Check.dueHeld(x, 1, 1);
        Check.dueErrors(x, 0);
    }

    private static void deafForTheAnswer() {
        LinRows x = Check.withService(1);
        Check.give(x, 0, 1, 11, 0, 0, 0, 0, 0, 0, 0);
        Check.give(x, 1, 2, 1, 2, 3, 4, 5, 6, 7, 8);
        x.rate(1, 141);
        Check.due("60 alone, no ERROR", 1, x.run(2));
        x.rate(1, 140);
        Check.due("both", 2, x.run(2));
        Check.dueErrors(x, 0);
    }
}
