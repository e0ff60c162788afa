/**
 * Promise 10: "A node (0 the master) wakes the wire: behind how many ticks slots go on: 100, 108 by
 * a slave; 0 if it does not sleep. -1 there is none, -3 it does not HEAR."
 */
public final class WakeTest {
    public static void main(String[] args) {
        byTheMaster();
        bySlaves();
        wireDoesNotSleep();
        nodeIsUnknown();
        nodeBehindTheLastOfSixteen();
        deafSlave();
        deafSlaveThoughAwake();
        refusalsLeaveItAsleep();
        slotsGoOn();
        ticksOfWakingAreNoSlots();
        Check.end();
    }

    private static LinRows asleep(int slaves) {
        LinRows x = Check.withSlaves(slaves);
        Check.due("sleep()", 1, x.sleep());
        return x;
    }

    private static void byTheMaster() {
        LinRows x = asleep(0);
        Check.due("wake(0)", 100, x.wake(0));
        Check.due("awake then", 0, x.wake(0));
    }

    private static void bySlaves() {
        LinRows x = asleep(2);
        Check.due("wake(1)", 108, x.wake(1));
        Check.due("awake then", 0, x.wake(1));
        x.sleep();
        Check.due("wake(2)", 108, x.wake(2));
    }

    private static void wireDoesNotSleep() {
        LinRows x = Check.withSlaves(2);
        for (int node = 0; node <= 2; node++) {
            Check.due("wake(" + node + ")", 0, x.wake(node));
        }
    }

    private static void nodeIsUnknown() {
        LinRows x = asleep(2);
        for (int node : new int[] {3, 11, -1, Integer.MIN_VALUE, Integer.MAX_VALUE}) {
            Check.due("asleep, wake(" + node + ")", -1, x.wake(node));
        }
        Check.due("wake(2)", 108, x.wake(2));
        for (int node : new int[] {3, 11, -1, Integer.MIN_VALUE, Integer.MAX_VALUE}) {
            Check.due("awake, wake(" + node + ")", -1, x.wake(node));
        }
    }

    private static void nodeBehindTheLastOfSixteen() {
        LinRows x = asleep(16);
        Check.due("wake(17)", -1, x.wake(17));
        Check.due("wake(16)", 108, x.wake(16));
    }

    private static void deafSlave() {
        LinRows x = asleep(1);
        for (int permille : new int[] {141, -141, 1000, -1000}) {
            x.rate(1, permille);
            Check.due("off by " + permille, -3, x.wake(1));
        }
        x.rate(1, 140);
        Check.due("off by 140", 108, x.wake(1));
        x.sleep();
        x.rate(1, -140);
        Check.due("off by -140", 108, x.wake(1));
    }

    private static void deafSlaveThoughAwake() {
        LinRows x = Check.withSlaves(1);
        x.rate(1, 141);
        Check.due("awake, deaf", -3, x.wake(1));
    }

    private static void refusalsLeaveItAsleep() {
        LinRows x = asleep(1);
        x.rate(1, 141);
        Check.due("deaf", -3, x.wake(1));
        Check.due("none", -1, x.wake(2));
        Check.due("it sleeps still", -3, x.sleep());
        Check.due("wake(0)", 100, x.wake(0));
    }

    private static void slotsGoOn() {
        LinRows x = Check.withService(1);
        Check.give(x, 0, 1, 11, 0, 0, 0, 0, 0, 0, 0);
        x.sleep();
        Check.due("asleep", -3, x.run(1));
        Check.due("wake(1)", 108, x.wake(1));
        Check.due("awake", 1, x.run(1));
    }

    private static void ticksOfWakingAreNoSlots() {
        LinRows x = Check.withSlaves(1);
        x.frame(1, 0, 1, false);
        x.slot(1, 60);
        x.run(1);
        x.sleep();
        Check.due("wake(1)", 108, x.wake(1));
        Check.due("run(1)", 0, x.run(1));
        Check.dueError(x, 1, 1, 1, 1, 60);
    }
}
