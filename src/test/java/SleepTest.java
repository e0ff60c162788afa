/** Promise 11. */
public final class SleepTest {
    public static void main(String[] args) {
        LinRows x = new LinRows();
        Check.due("without a frame 60", 1, x.sleep());
        Check.due("it does already", -3, x.sleep());
        Check.due("a frame", 1, x.frame(60, 0, 8, true));
        Check.due("60 came too late to be HELD", -3, x.sum(1));
        Check.due("a second sleep", -3, x.sleep());
        Check.due("a refusal changed nothing", -3, x.sum(1));

        heldByTheRequest();
        slotsWaitAndGoOn();
        Check.end();
    }

    private static void heldByTheRequest() {
        LinRows x = Check.withService(1);
        Check.give(x, 0, 1, 11, 1, 2, 3, 4, 5, 6, 7);
        Check.give(x, 1, 2, 8, 7, 6, 5, 4, 3, 2, 1);
        Check.due("run(2)", 2, x.run(2));
        Check.due("sleep()", 1, x.sleep());
        Check.dueHeld(x, 1, 0, 255, 255, 255, 255, 255, 255, 255);
        Check.due("its sum", 0, x.sum(1));
        Check.dueHeld(x, 2, 8, 7, 6, 5, 4, 3, 2, 1);
        Check.due("wake", 100, x.wake(0));
        Check.due("what the master was given is what it sends then", 2, x.run(2));
        Check.dueHeld(x, 1, 11, 1, 2, 3, 4, 5, 6, 7);
        Check.due("run(1)", 1, x.run(1));
        Check.due("sleep()", 1, x.sleep());
        Check.due("wake", 100, x.wake(0));
        Check.due("61 asks the address 0: nobody, not the master", 0, x.run(1));
        Check.dueErrors(x, 0);
    }

    private static void slotsWaitAndGoOn() {
        LinRows x = new LinRows();
        x.frame(1, 0, 1, false);
        x.slot(1, 60);
        x.slot(1, 70);
        x.slot(1, 80);
        Check.due("run(1)", 0, x.run(1));
        Check.due("sleep()", 1, x.sleep());
        Check.due("run(1) asleep", -3, x.run(1));
        Check.due("run(0) asleep", -3, x.run(0));
        Check.due("range is before state", -2, x.run(1001));
        Check.due("others may be called", 0, Check.give(x, 0, 1, 4));
        Check.due("wake", 100, x.wake(0));
        Check.due("what was given is sent", 1, x.run(1));
        x.frame(2, 0, 1, false);
        x.slot(2, 90);
        Check.due("run(2)", 1, x.run(2));
        Check.dueError(x, 0, 1, 1, 1, 0);
        Check.dueError(x, 1, 1, 4, 2, 210);
    }
}
