/**
 * Promise 11: "The wire sleeps: 1. -3 it does already." and "the master sends 60 with 0 and 255
 * seven times (that is HELD, if there is a frame 60); then no slot goes by until a node wakes".
 */
public final class SleepTest {
    public static void main(String[] args) {
        sleepsAlready();
        withoutARequest();
        heldByTheRequest();
        heldThoughNothingWasGiven();
        refusalHoldsNothing();
        mastersOctetsStay();
        answerAsksNobodyThen();
        noSlotGoesBy();
        othersMayBeCalled();
        slotsGoOnWhereTheyWere();
        Check.end();
    }

    private static void sleepsAlready() {
        LinRows x = new LinRows();
        Check.due("sleep()", 1, x.sleep());
        Check.due("again", -3, x.sleep());
        Check.due("and again", -3, x.sleep());
        x.wake(0);
        Check.due("awake between", 1, x.sleep());
    }

    private static void withoutARequest() {
        LinRows x = new LinRows();
        x.frame(59, 0, 8, false);
        x.frame(61, -1, 8, false);
        Check.due("sleep()", 1, x.sleep());
        Check.due("59 HELD nothing", -3, x.sum(1));
        Check.due("nor did 61", -3, x.sum(2));
        Check.due("a frame 60", 3, x.frame(60, 0, 8, true));
        Check.due("it came too late", -3, x.sum(3));
    }

    private static void heldByTheRequest() {
        LinRows x = Check.withService(1);
        Check.give(x, 0, 1, 11, 1, 2, 3, 4, 5, 6, 7);
        Check.give(x, 1, 2, 8, 7, 6, 5, 4, 3, 2, 1);
        Check.due("run(2)", 2, x.run(2));
        Check.due("sleep()", 1, x.sleep());
        Check.dueHeld(x, 1, 0, 255, 255, 255, 255, 255, 255, 255);
        Check.due("its sum", 0, x.sum(1));
        Check.dueHeld(x, 2, 8, 7, 6, 5, 4, 3, 2, 1);
        Check.dueErrors(x, 0);
    }

    private static void heldThoughNothingWasGiven() {
        LinRows x = new LinRows();
        x.frame(60, 0, 8, true);
        Check.due("without slots", 1, x.sleep());
        Check.dueHeld(x, 1, 0, 255, 255, 255, 255, 255, 255, 255);
        Check.due("its sum", 0, x.sum(1));
    }

    private static void refusalHoldsNothing() {
        LinRows x = new LinRows();
        x.sleep();
        x.frame(60, 0, 8, true);
        Check.due("again", -3, x.sleep());
        Check.due("nothing is HELD", -3, x.sum(1));
    }

    private static void mastersOctetsStay() {
        LinRows x = Check.withService(1);
        x.sleep();
        x.wake(0);
        Check.due("it was given none", 0, x.run(1));
        Check.dueError(x, 0, 1, 1, 1, 0);
        x.run(1);
        Check.give(x, 0, 1, 11, 1, 2, 3, 4, 5, 6, 7);
        x.sleep();
        x.wake(0);
        Check.due("it sends what it was given", 1, x.run(1));
        Check.dueHeld(x, 1, 11, 1, 2, 3, 4, 5, 6, 7);
    }

    private static void answerAsksNobodyThen() {
        LinRows x = Check.withService(1);
        Check.give(x, 0, 1, 11, 0, 0, 0, 0, 0, 0, 0);
        Check.give(x, 1, 2, 1, 1, 1, 1, 1, 1, 1, 1);
        Check.due("60", 1, x.run(1));
        x.sleep();
        x.wake(1);
        Check.due("61 asks the address 0: nobody, not the master", 0, x.run(1));
        Check.dueErrors(x, 0);
    }

    private static void noSlotGoesBy() {
        LinRows x = new LinRows();
        x.frame(1, 0, 1, false);
        x.slot(1, 54);
        x.sleep();
        Check.due("run(1)", -3, x.run(1));
        Check.due("run(0)", -3, x.run(0));
        Check.due("run(1000)", -3, x.run(1000));
        Check.due("range is before state", -2, x.run(1001));
        Check.due("range is before state", -2, x.run(-1));
        Check.dueErrors(x, 0);
    }

    private static void othersMayBeCalled() {
        LinRows x = Check.withSlaves(1);
        x.sleep();
        Check.due("slave(12)", 2, x.slave(12));
        Check.due("frame", 1, x.frame(1, 2, 1, false));
        Check.due("slot", 1, x.slot(1, 54));
        Check.due("answer", 0, x.answer(2, 1, (byte) 4));
        Check.due("rate", 1, x.rate(2, 140));
        Check.due("parity", 0x80, x.parity(0));
        Check.due("collision", 0, x.collision(1, 0));
        Check.due("wake", 108, x.wake(2));
        Check.due("what was given is sent", 1, x.run(1));
    }

    private static void slotsGoOnWhereTheyWere() {
        LinRows x = new LinRows();
        x.frame(1, 0, 1, false);
        x.slot(1, 1);
        x.slot(1, 2);
        x.slot(1, 4);
        x.run(1);
        x.sleep();
        x.run(1);
        x.wake(0);
        x.run(1);
        Check.dueError(x, 0, 1, 1, 1, 0);
        Check.dueError(x, 1, 1, 2, 1, 1);
        Check.dueErrors(x, 2);
    }
}
