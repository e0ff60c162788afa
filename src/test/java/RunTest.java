/**
 * Promise 5: "The next slots go by: how many frames were DONE. -2 slots are not 0 .. 1000, -3 there
 * are no slots, or the wire sleeps." and what happens in a slot, but for collisions (CollisionTest)
 * and the frames 60 and 61 (ServiceTest).
 */
public final class RunTest {
    public static void main(String[] args) {
        fewestSlots();
        mostSlots();
        noSlots();
        wireSleeps();
        rangeIsBeforeState();
        refusalsLetNoSlotGoBy();
        behindTheLastSlotTheFirstAgain();
        oneSlotIsFirstAndLast();
        sixtyFourSlots();
        slotAddedWhenTheLastHasGoneBy();
        slotAddedBeforeTheLastHasGoneBy();
        frameInSeveralSlots();
        masterWasNeverGivenOctets();
        masterSendsAgainAndAgain();
        sporadicHasNothing();
        slaveHasNoOctets();
        slaveSendsAgainAndAgain();
        othersSendNewOctetsOnly();
        slaveAndOthersTogether();
        slaveWithoutOctetsAndOthersTogether();
        sixteenSenders();
        shortSlots();
        shortSlotWithoutSenders();
        shortSlotsLeaveOctetsNew();
        wrongSumHoldsNothing();
        wrongSumLeavesNothingNew();
        differentOctetsWhoseSumFits();
        Check.end();
    }

    /** Frame 1 from the master, with one octet and slots of 1, 2, 3, .. ticks. */
    private static LinRows withSlots(int count) {
        LinRows x = new LinRows();
        x.frame(1, 0, 1, false);
        for (int n = 1; n <= count; n++) {
            Check.due("slot " + n, n, x.slot(1, n));
        }
        return x;
    }

    /** Frame 1 from slave 1, with so many octets and one slot that is just long enough. */
    private static LinRows withSlavesFrame(int slaves, int length) {
        LinRows x = Check.withSlaves(slaves);
        x.frame(1, 1, length, false);
        x.slot(1, 44 + 10 * length);
        return x;
    }

    private static void fewestSlots() {
        LinRows x = withSlots(1);
        Check.due("run(-1)", -2, x.run(-1));
        Check.due("run(MIN)", -2, x.run(Integer.MIN_VALUE));
        Check.due("run(0)", 0, x.run(0));
        Check.dueErrors(x, 0);
        Check.due("run(1)", 0, x.run(1));
        Check.dueErrors(x, 1);
    }

    private static void mostSlots() {
        LinRows x = new LinRows();
        x.frame(1, 0, 1, false);
        x.slot(1, 54);
        Check.give(x, 0, 1, 1);
        Check.due("run(1001)", -2, x.run(1001));
        Check.due("run(MAX)", -2, x.run(Integer.MAX_VALUE));
        Check.due("none went by", -3, x.sum(1));
        Check.due("run(1000)", 1000, x.run(1000));
    }

    private static void noSlots() {
        LinRows x = new LinRows();
        Check.due("run(0)", -3, x.run(0));
        Check.due("run(1000)", -3, x.run(1000));
        x.frame(1, 0, 1, false);
        Check.due("a frame is no slot", -3, x.run(1));
        x.slot(1, 54);
        Check.due("one slot", 0, x.run(1));
    }

    private static void wireSleeps() {
        LinRows x = withSlots(1);
        x.sleep();
        Check.due("run(0)", -3, x.run(0));
        Check.due("run(1000)", -3, x.run(1000));
        x.wake(0);
        Check.due("awake", 0, x.run(1));
    }

    private static void rangeIsBeforeState() {
        LinRows x = new LinRows();
        Check.due("no slots, run(-1)", -2, x.run(-1));
        Check.due("no slots, run(1001)", -2, x.run(1001));
        x = withSlots(1);
        x.sleep();
        Check.due("asleep, run(-1)", -2, x.run(-1));
        Check.due("asleep, run(1001)", -2, x.run(1001));
    }

    private static void refusalsLetNoSlotGoBy() {
        LinRows x = withSlots(3);
        x.run(1);
        x.run(-1);
        x.run(1001);
        x.sleep();
        x.run(1);
        x.wake(0);
        x.run(1);
        Check.dueError(x, 1, 1, 2, 1, 1);
        Check.dueErrors(x, 2);
    }

    private static void behindTheLastSlotTheFirstAgain() {
        LinRows x = withSlots(3);
        Check.due("run(7)", 0, x.run(7));
        int tick = 0;
        for (int i = 0; i < 7; i++) {
            int slot = 1 + i % 3;
            Check.dueError(x, i, 1, slot, 1, tick);
            tick += slot;
        }
        x.run(1);
        Check.dueError(x, 7, 1, 2, 1, 2 * 6 + 1);
    }

    private static void oneSlotIsFirstAndLast() {
        LinRows x = withSlots(1);
        Check.due("run(2)", 0, x.run(2));
        Check.dueError(x, 0, 1, 1, 1, 0);
        Check.dueError(x, 1, 1, 1, 1, 1);
    }

    private static void sixtyFourSlots() {
        LinRows x = withSlots(64);
        Check.due("run(64)", 0, x.run(64));
        Check.dueError(x, 63, 1, 64, 1, 63 * 64 / 2);
        Check.dueErrors(x, 64);
        Check.due("run(1)", 0, x.run(1));
        Check.dueError(x, 64, 1, 1, 1, 64 * 65 / 2);
    }

    private static void slotAddedWhenTheLastHasGoneBy() {
        LinRows x = withSlots(2);
        x.run(2);
        x.slot(1, 10);
        Check.due("the first, then in their order", 0, x.run(4));
        Check.dueError(x, 2, 1, 1, 1, 3);
        Check.dueError(x, 3, 1, 2, 1, 4);
        Check.dueError(x, 4, 1, 3, 1, 6);
        Check.dueError(x, 5, 1, 1, 1, 16);
    }

    private static void slotAddedBeforeTheLastHasGoneBy() {
        LinRows x = withSlots(2);
        x.run(1);
        x.slot(1, 10);
        Check.due("run(3)", 0, x.run(3));
        Check.dueError(x, 1, 1, 2, 1, 1);
        Check.dueError(x, 2, 1, 3, 1, 3);
        Check.dueError(x, 3, 1, 1, 1, 13);
    }

    private static void frameInSeveralSlots() {
        LinRows x = new LinRows();
        x.frame(1, 0, 1, false);
        x.frame(2, 0, 1, false);
        x.slot(1, 54);
        x.slot(2, 54);
        x.slot(1, 54);
        Check.give(x, 0, 1, 1);
        Check.due("twice of three", 2, x.run(3));
        Check.dueError(x, 0, 1, 2, 2, 54);
        Check.give(x, 0, 2, 1);
        Check.due("all", 3, x.run(3));
        Check.due("two of the first two", 2, x.run(2));
    }

    private static void masterWasNeverGivenOctets() {
        LinRows x = new LinRows();
        x.frame(1, 0, 1, false);
        x.slot(1, 54);
        Check.due("run(1)", 0, x.run(1));
        Check.dueError(x, 0, 1, 1, 1, 0);
        Check.due("nothing is HELD", -3, x.sum(1));
    }

    private static void masterSendsAgainAndAgain() {
        LinRows x = new LinRows();
        x.frame(1, 0, 2, true);
        x.slot(1, 64);
        Check.give(x, 0, 1, 1, 2);
        Check.due("NEW or not", 3, x.run(3));
        Check.dueHeld(x, 1, 1, 2);
        Check.give(x, 0, 1, 3, 4);
        Check.due("run(1)", 1, x.run(1));
        Check.dueHeld(x, 1, 3, 4);
        Check.dueErrors(x, 0);
    }

    private static void sporadicHasNothing() {
        LinRows x = new LinRows();
        x.frame(1, -2, 1, true);
        x.slot(1, 54);
        Check.due("nothing, and no ERROR", 0, x.run(3));
        Check.give(x, 0, 1, 8);
        Check.due("once", 1, x.run(3));
        Check.dueHeld(x, 1, 8);
        Check.due("nothing again", 0, x.run(3));
        Check.dueErrors(x, 0);
    }

    private static void slaveHasNoOctets() {
        LinRows x = withSlavesFrame(2, 1);
        Check.due("run(1)", 0, x.run(1));
        Check.dueError(x, 0, 1, 1, 1, 0);
        Check.due("nothing is HELD", -3, x.sum(1));
    }

    private static void slaveSendsAgainAndAgain() {
        LinRows x = withSlavesFrame(1, 1);
        Check.give(x, 1, 1, 6);
        Check.due("NEW or not", 3, x.run(3));
        Check.dueHeld(x, 1, 6);
        Check.dueErrors(x, 0);
    }

    private static void othersSendNewOctetsOnly() {
        LinRows x = withSlavesFrame(2, 1);
        Check.give(x, 2, 1, 5);
        Check.due("NEW", 1, x.run(1));
        Check.dueHeld(x, 1, 5);
        Check.due("NEW no more", 0, x.run(1));
        Check.dueError(x, 0, 1, 1, 1, 54);
        Check.dueHeld(x, 1, 5);
    }

    private static void slaveAndOthersTogether() {
        LinRows x = withSlavesFrame(2, 2);
        Check.give(x, 1, 1, 1, 2);
        Check.give(x, 2, 1, 1, 2);
        Check.due("the same octets", 1, x.run(1));
        Check.dueHeld(x, 1, 1, 2);
        Check.give(x, 2, 1, 1, 3);
        Check.due("1 sends too, though not NEW", 0, x.run(1));
        Check.dueError(x, 0, 2, 1, 1, 64);
    }

    private static void slaveWithoutOctetsAndOthersTogether() {
        LinRows x = withSlavesFrame(3, 1);
        Check.give(x, 2, 1, 0x0F);
        Check.give(x, 3, 1, 0xF0);
        Check.due("2 and 3: no collision, but a wrong sum", 0, x.run(1));
        Check.dueError(x, 0, 2, 1, 1, 0);
        Check.dueTable(x, 1);
        Check.due("both were sent", 0, x.run(1));
        Check.dueError(x, 1, 1, 1, 1, 54);
    }

    private static void sixteenSenders() {
        LinRows x = withSlavesFrame(16, 1);
        for (int n = 1; n <= 16; n++) {
            Check.give(x, n, 1, 0xA5);
        }
        Check.due("all the same", 1, x.run(1));
        Check.dueHeld(x, 1, 0xA5);
        for (int n = 1; n <= 16; n++) {
            Check.give(x, n, 1, n == 16 ? 0xA4 : 0xA5);
        }
        Check.due("the last one differs", 0, x.run(1));
        Check.dueError(x, 0, 2, 1, 1, 54);
        Check.due("1 alone then", 1, x.run(1));
        Check.dueErrors(x, 1);
    }

    private static void shortSlots() {
        for (int length = 1; length <= 8; length++) {
            LinRows x = new LinRows();
            int needed = 44 + 10 * length;
            x.frame(7, 0, length, true);
            x.slot(1, needed - 1);
            x.slot(1, needed);
            x.slot(1, needed + 1);
            x.slot(1, 1);
            Check.give(x, 0, 1, new int[length]);
            Check.due("a tick too few", 0, x.run(1));
            Check.dueError(x, 0, 3, 1, 1, 0);
            Check.due("nothing is HELD", -3, x.sum(1));
            Check.due("just enough", 1, x.run(1));
            Check.due("more than enough", 1, x.run(1));
            Check.due("the shortest", 0, x.run(1));
            Check.dueError(x, 1, 3, 4, 1, 3 * needed);
            Check.dueErrors(x, 2);
        }
    }

    private static void shortSlotWithoutSenders() {
        LinRows x = Check.withSlaves(1);
        x.frame(1, 0, 1, false);
        x.frame(2, 1, 1, false);
        x.frame(3, -1, 1, false);
        x.frame(4, -2, 1, false);
        for (int frame = 1; frame <= 4; frame++) {
            x.slot(frame, 53);
        }
        Check.due("run(4)", 0, x.run(4));
        Check.dueError(x, 0, 1, 1, 1, 0);
        Check.dueError(x, 1, 1, 2, 2, 53);
        Check.dueErrors(x, 2);
    }

    private static void shortSlotsLeaveOctetsNew() {
        LinRows x = Check.withSlaves(2);
        x.frame(1, -2, 1, false);
        x.frame(2, 1, 1, false);
        x.frame(3, -1, 1, false);
        for (int frame = 1; frame <= 3; frame++) {
            x.slot(frame, 53);
        }
        for (int frame = 1; frame <= 3; frame++) {
            x.slot(frame, 54);
        }
        Check.give(x, 0, 1, 1);
        Check.give(x, 2, 2, 2);
        Check.give(x, 2, 3, 3);
        Check.due("too short", 0, x.run(3));
        Check.dueErrors(x, 3);
        Check.due("NEW still", 3, x.run(3));
        Check.due("NEW no more: only 2 is missed", 0, x.run(6));
        Check.dueError(x, 3, 1, 2, 2, 3 * 53 + 3 * 54 + 53);
        Check.dueError(x, 4, 1, 5, 2, 6 * 53 + 4 * 54);
        Check.dueErrors(x, 5);
    }

    private static void wrongSumHoldsNothing() {
        LinRows x = withSlavesFrame(3, 2);
        // Sums 0, 0 and 0, but the octets together are 254 0, whose sum is 1.
        Check.give(x, 1, 1, 254, 1);
        Check.give(x, 2, 1, 255, 0);
        Check.give(x, 3, 1, 255, 255);
        Check.due("three senders", 0, x.run(1));
        Check.dueError(x, 0, 2, 1, 1, 0);
        Check.due("nothing is HELD", -3, x.sum(1));
        Check.due("1 alone", 1, x.run(1));
        // Sums 0xFB and 0xF3, together 0xF3, but the octets together are 4 0 with the sum 0xFB.
        Check.give(x, 1, 1, 4, 0);
        Check.give(x, 2, 1, 4, 8);
        Check.due("one sender's octets are those on the wire", 0, x.run(1));
        Check.dueError(x, 1, 2, 1, 1, 2 * 64);
        Check.dueHeld(x, 1, 254, 1);
        Check.dueErrors(x, 2);
    }

    private static void wrongSumLeavesNothingNew() {
        LinRows x = withSlavesFrame(2, 1);
        Check.give(x, 1, 1, 0x0F);
        Check.give(x, 2, 1, 0xF0);
        Check.due("wrong", 0, x.run(1));
        Check.due("2 was sent: 1 alone", 1, x.run(1));
        Check.dueHeld(x, 1, 0x0F);
        Check.dueErrors(x, 1);
    }

    private static void differentOctetsWhoseSumFits() {
        LinRows x = withSlavesFrame(2, 2);
        // Sums 254 and 254, and the octets together are 1 0 with the sum 254.
        Check.give(x, 1, 1, 255, 1);
        Check.give(x, 2, 1, 1, 0);
        Check.due("run(1)", 1, x.run(1));
        Check.dueHeld(x, 1, 1, 0);
        Check.due("sum(1)", 254, x.sum(1));
        // 2 is NEW no more; 1 has what it was given still.
        Check.due("run(1)", 1, x.run(1));
        Check.dueHeld(x, 1, 255, 1);
        Check.dueErrors(x, 0);
    }
}
