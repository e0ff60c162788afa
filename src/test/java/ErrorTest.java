/**
 * Promise 13: "Error i (from 0 on; the first 200 are kept): what = 0 its kind, 1 its slot, 2 its
 * frame, 3 in which tick its slot began (ticks of all slots before). -1 there is none, -2 no such
 * what."
 */
public final class ErrorTest {
    public static void main(String[] args) {
        noErrorsYet();
        beforeTheFirst();
        behindTheLast();
        whatTooSmall();
        whatTooLarge();
        unknownIsBeforeRange();
        kindsSlotsFramesTicks();
        firstTwoHundred();
        ticksOfAllSlotsBefore();
        latestTick();
        Check.end();
    }

    /** A frame that nobody sends: each slot is an ERROR 1. */
    private static LinRows withErrors(int count, int ticks) {
        LinRows x = new LinRows();
        x.frame(1, 0, 1, false);
        x.slot(1, ticks);
        Check.due("run(" + count + ")", 0, x.run(count));
        return x;
    }

    private static void noErrorsYet() {
        LinRows x = withErrors(0, 54);
        for (int what = 0; what <= 3; what++) {
            Check.due("error(0, " + what + ")", -1, x.error(0, what));
        }
        Check.give(x, 0, 1, 1);
        Check.due("run(3)", 3, x.run(3));
        Check.due("DONE is no error", -1, x.error(0, 0));
    }

    private static void beforeTheFirst() {
        LinRows x = withErrors(2, 54);
        Check.due("error(-1, 0)", -1, x.error(-1, 0));
        Check.due("error(MIN, 0)", -1, x.error(Integer.MIN_VALUE, 0));
        Check.due("error(0, 0)", 1, x.error(0, 0));
    }

    private static void behindTheLast() {
        LinRows x = withErrors(2, 54);
        Check.due("error(2, 0)", -1, x.error(2, 0));
        Check.due("error(MAX, 0)", -1, x.error(Integer.MAX_VALUE, 0));
        Check.due("error(1, 0)", 1, x.error(1, 0));
    }

    private static void whatTooSmall() {
        LinRows x = withErrors(1, 54);
        Check.due("what -1", -2, x.error(0, -1));
        Check.due("what MIN", -2, x.error(0, Integer.MIN_VALUE));
        Check.due("what 0", 1, x.error(0, 0));
    }

    private static void whatTooLarge() {
        LinRows x = withErrors(2, 54);
        Check.due("what 4", -2, x.error(1, 4));
        Check.due("what MAX", -2, x.error(1, Integer.MAX_VALUE));
        Check.due("what 3", 54, x.error(1, 3));
    }

    private static void unknownIsBeforeRange() {
        LinRows x = withErrors(2, 54);
        Check.due("error(-1, -1)", -1, x.error(-1, -1));
        Check.due("error(2, 4)", -1, x.error(2, 4));
        Check.due("no errors", -1, new LinRows().error(0, 4));
    }

    private static void kindsSlotsFramesTicks() {
        LinRows x = Check.withSlaves(2);
        x.frame(20, 0, 2, false);
        x.frame(21, 1, 1, false);
        x.frame(22, -1, 1, false);
        x.slot(3, 70);
        x.slot(2, 54);
        x.slot(1, 63);
        Check.give(x, 1, 3, 1);
        Check.give(x, 2, 3, 2);
        Check.give(x, 1, 2, 0x0F);
        Check.give(x, 2, 2, 0xF0);
        Check.give(x, 0, 1, 1, 2);
        Check.due("run(3)", 0, x.run(3));
        Check.dueError(x, 0, 4, 1, 3, 0);
        Check.dueError(x, 1, 2, 2, 2, 70);
        Check.dueError(x, 2, 3, 3, 1, 124);
        x.rate(1, 300);
        Check.due("run(3)", 0, x.run(3));
        Check.dueError(x, 3, 1, 2, 2, 187 + 70);
        Check.dueError(x, 4, 3, 3, 1, 187 + 124);
        Check.dueErrors(x, 5);
    }

    private static void firstTwoHundred() {
        LinRows x = withErrors(199, 1000);
        Check.dueErrors(x, 199);
        x.run(1);
        Check.dueErrors(x, 200);
        x.run(1);
        Check.dueErrors(x, 200);
        Check.due("run(1000)", 0, x.run(1000));
        Check.dueErrors(x, 200);
        Check.due("the 201st, no such what", -1, x.error(200, 4));
        Check.dueError(x, 0, 1, 1, 1, 0);
        Check.dueError(x, 199, 1, 1, 1, 199000);
        Check.give(x, 0, 1, 1);
        Check.due("slots go by as before", 1, x.run(1));
    }

    private static void ticksOfAllSlotsBefore() {
        LinRows x = new LinRows();
        x.frame(1, -2, 1, false);
        x.frame(2, 0, 1, false);
        x.slot(1, 1);
        x.slot(2, 54);
        x.slot(1, 1000);
        Check.due("a slot of nobody counts", 0, x.run(2));
        Check.dueError(x, 0, 1, 2, 2, 1);
        Check.due("sleep()", 1, x.sleep());
        Check.due("waking is no slot", 100, x.wake(0));
        Check.give(x, 0, 2, 1);
        Check.due("a slot with a frame DONE counts", 1, x.run(3));
        x.frame(3, 0, 1, false);
        x.slot(3, 7);
        Check.due("run(2)", 0, x.run(2));
        Check.dueError(x, 1, 1, 4, 3, 1055 + 1055);
        Check.due("run(3)", 1, x.run(3));
        Check.give(x, 0, 1, 1);
        Check.due("run(2)", 0, x.run(2));
        Check.dueError(x, 2, 1, 4, 3, 2110 + 7 + 1055);
        Check.dueError(x, 3, 3, 1, 1, 2110 + 7 + 1055 + 7);
        Check.dueErrors(x, 4);
    }

    /** As far on as an object's calls can bring it, or nearly so. */
    private static void latestTick() {
        LinRows x = Check.withSlaves(1);
        x.frame(1, 1, 1, false);
        x.slot(1, 1000);
        Check.give(x, 1, 1, 1);
        for (int k = 0; k < 480; k++) {
            Check.due("run(1000)", 1000, x.run(1000));
        }
        x.rate(1, 141);
        Check.due("run(1)", 0, x.run(1));
        Check.dueError(x, 0, 1, 1, 1, 480_000_000);
    }
}
