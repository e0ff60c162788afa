/**
 * Promise 4: "A slot at the end of the schedule: its number, from 1 on. -1 there is no frame, -2
 * ticks are not 1 .. 1000, -4 there are 64."
 */
public final class SlotTest {
    public static void main(String[] args) {
        frameIsUnknown();
        frameBehindTheLastOfSixtyTwo();
        fewestTicks();
        mostTicks();
        roomForSixtyFour();
        unknownIsBeforeRange();
        unknownIsBeforeRoom();
        rangeIsBeforeRoom();
        atTheEndOfTheSchedule();
        Check.end();
    }

    private static LinRows withFrame() {
        LinRows x = new LinRows();
        Check.due("frame", 1, x.frame(3, 0, 1, false));
        return x;
    }

    private static LinRows withSlots(int count) {
        LinRows x = withFrame();
        for (int n = 1; n <= count; n++) {
            Check.due("slot " + n, n, x.slot(1, n));
        }
        return x;
    }

    private static void frameIsUnknown() {
        Check.due("no frame yet", -1, new LinRows().slot(1, 100));
        LinRows x = withFrame();
        Check.due("frame 0", -1, x.slot(0, 100));
        Check.due("frame 2", -1, x.slot(2, 100));
        Check.due("frame 3: that is an identifier", -1, x.slot(3, 100));
        Check.due("frame -1", -1, x.slot(-1, 100));
        Check.due("frame MIN", -1, x.slot(Integer.MIN_VALUE, 100));
        Check.due("frame MAX", -1, x.slot(Integer.MAX_VALUE, 100));
        Check.due("frame 1", 1, x.slot(1, 100));
    }

    private static void frameBehindTheLastOfSixtyTwo() {
        LinRows x = new LinRows();
        for (int id = 0; id <= 61; id++) {
            x.frame(id, id == 61 ? -1 : 0, 8, false);
        }
        Check.due("frame 63", -1, x.slot(63, 100));
        Check.due("frame 62", 1, x.slot(62, 100));
    }

    private static void fewestTicks() {
        LinRows x = withFrame();
        Check.due("0 ticks", -2, x.slot(1, 0));
        Check.due("-1 ticks", -2, x.slot(1, -1));
        Check.due("MIN ticks", -2, x.slot(1, Integer.MIN_VALUE));
        Check.due("1 tick", 1, x.slot(1, 1));
        Check.due("run(2)", 0, x.run(2));
        Check.dueError(x, 1, 1, 1, 1, 1);
    }

    private static void mostTicks() {
        LinRows x = withFrame();
        Check.due("1001 ticks", -2, x.slot(1, 1001));
        Check.due("MAX ticks", -2, x.slot(1, Integer.MAX_VALUE));
        Check.due("1000 ticks", 1, x.slot(1, 1000));
        Check.due("run(2)", 0, x.run(2));
        Check.dueError(x, 1, 1, 1, 1, 1000);
    }

    private static void roomForSixtyFour() {
        LinRows x = withSlots(64);
        Check.due("the 65th", -4, x.slot(1, 1));
        Check.due("the 65th again", -4, x.slot(1, 1000));
        Check.due("slot 64 is there", 0, x.collision(64, 0));
        Check.due("slot 65 is not", -1, x.collision(65, 0));
        Check.due("run(65)", 0, x.run(65));
        Check.dueError(x, 63, 1, 64, 1, 63 * 64 / 2);
        Check.dueError(x, 64, 1, 1, 1, 64 * 65 / 2);
    }

    private static void unknownIsBeforeRange() {
        LinRows x = withFrame();
        Check.due("frame 2 and 0 ticks", -1, x.slot(2, 0));
        Check.due("frame 0 and 1001 ticks", -1, x.slot(0, 1001));
    }

    private static void unknownIsBeforeRoom() {
        LinRows x = withSlots(64);
        Check.due("frame 2 and no room", -1, x.slot(2, 100));
        Check.due("frame 0, 0 ticks and no room", -1, x.slot(0, 0));
    }

    private static void rangeIsBeforeRoom() {
        LinRows x = withSlots(64);
        Check.due("0 ticks and no room", -2, x.slot(1, 0));
        Check.due("1001 ticks and no room", -2, x.slot(1, 1001));
    }

    private static void atTheEndOfTheSchedule() {
        LinRows x = withSlots(3);
        Check.due("refused", -2, x.slot(1, 0));
        Check.due("refusals took no numbers", 4, x.slot(1, 4));
        Check.due("run(4)", 0, x.run(4));
        Check.dueError(x, 2, 1, 3, 1, 1 + 2);
        Check.dueError(x, 3, 1, 4, 1, 1 + 2 + 3);
    }
}
