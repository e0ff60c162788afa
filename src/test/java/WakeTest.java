/** Promise 10. */
public final class WakeTest {
    public static void main(String[] args) {
        LinRows x = Check.withSlaves(3);
        Check.due("awake, the master", 0, x.wake(0));
        Check.due("awake, a slave", 0, x.wake(3));
        Check.due("none", -1, x.wake(4));
        Check.due("none", -1, x.wake(-1));
        Check.due("none", -1, x.wake(Integer.MIN_VALUE));
        x.rate(2, 141);
        Check.due("deaf, though awake", -3, x.wake(2));
        x.sleep();
        Check.due("none", -1, x.wake(4));
        Check.due("deaf", -3, x.wake(2));
        Check.due("still asleep", -3, x.sleep());
        Check.due("a slave", 108, x.wake(3));
        Check.due("awake", 0, x.wake(1));
        x.sleep();
        Check.due("the master", 100, x.wake(0));
        Check.due("awake", 0, x.wake(0));
        x.rate(2, 140);
        x.sleep();
        Check.due("it hears again", 108, x.wake(2));
        ticksOfWakingAreNoSlots();
        Check.end();
    }

    private static void ticksOfWakingAreNoSlots() {
        LinRows x = Check.withSlaves(1);
        x.frame(1, 0, 1, false);
        x.slot(1, 60);
        x.run(1);
        x.sleep();
        Check.due("wake", 108, x.wake(1));
        Check.due("run goes again", 0, x.run(1));
        Check.dueError(x, 1, 1, 1, 1, 60);
    }
}
