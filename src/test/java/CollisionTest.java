/** Promise 9, and the frames from ANY. */
public final class CollisionTest {
    public static void main(String[] args) {
        answers();
        tableIsSentInItsOrder();
        deafSlaveLeavesTheTable();
        sendersAloneAreNewNoMore();
        tablesAreOfSlots();
        shortSlotIsNoCollision();
        sameOctetsAreNoCollision();
        allSixteen();
        Check.end();
    }

    private static LinRows withAnyFrame(int slaves) {
        LinRows x = Check.withSlaves(slaves);
        x.frame(30, -1, 1, true);
        x.slot(1, 54);
        return x;
    }

    private static void answers() {
        LinRows x = withAnyFrame(2);
        Check.due("no slot 0", -1, x.collision(0, 0));
        Check.due("no slot 2", -1, x.collision(2, 0));
        Check.due("no slot -1", -1, x.collision(-1, 0));
        Check.due("no slot MIN", -1, x.collision(Integer.MIN_VALUE, 0));
        Check.dueTable(x, 1);
        Check.give(x, 1, 1, 1);
        Check.give(x, 2, 1, 2);
        Check.due("run(1)", 0, x.run(1));
        Check.dueTable(x, 1, 1, 2);
        Check.due("i = -1", 0, x.collision(1, -1));
        Check.due("i = MIN", 0, x.collision(1, Integer.MIN_VALUE));
        Check.due("i = MAX", 0, x.collision(1, Integer.MAX_VALUE));
        Check.due("i = 16", 0, x.collision(1, 16));
    }

    private static void tableIsSentInItsOrder() {
        LinRows x = withAnyFrame(4);
        Check.give(x, 4, 1, 4);
        Check.give(x, 2, 1, 2);
        Check.give(x, 3, 1, 3);
        Check.due("run(1)", 0, x.run(1));
        Check.dueTable(x, 1, 2, 3, 4);
        Check.dueError(x, 0, 4, 1, 1, 0);
        Check.due("nothing is HELD", -3, x.sum(1));
        Check.give(x, 1, 1, 9);
        Check.due("2 alone", 1, x.run(1));
        Check.dueHeld(x, 1, 2);
        Check.dueTable(x, 1, 3, 4);
        Check.give(x, 3, 1, 33);
        Check.due("3 with what it has by then", 1, x.run(1));
        Check.dueHeld(x, 1, 33);
        Check.dueTable(x, 1, 4);
        Check.due("4", 1, x.run(1));
        Check.dueHeld(x, 1, 4);
        Check.dueTable(x, 1);
        Check.due("1 waited", 1, x.run(1));
        Check.dueHeld(x, 1, 9);
        Check.due("nothing is NEW", 0, x.run(1));
        Check.dueErrors(x, 1);
    }

    private static void deafSlaveLeavesTheTable() {
        LinRows x = withAnyFrame(2);
        Check.give(x, 1, 1, 1);
        Check.give(x, 2, 1, 2);
        Check.due("run(1)", 0, x.run(1));
        x.rate(1, 141);
        Check.due("1 is deaf: nobody sends", 0, x.run(1));
        Check.dueTable(x, 1, 2);
        Check.due("2", 1, x.run(1));
        Check.dueHeld(x, 1, 2);
        Check.dueTable(x, 1);
        x.rate(1, 0);
        Check.due("1 is NEW still", 1, x.run(1));
        Check.dueHeld(x, 1, 1);
        Check.dueErrors(x, 1);
    }

    private static void sendersAloneAreNewNoMore() {
        LinRows x = withAnyFrame(3);
        for (int n = 1; n <= 3; n++) {
            Check.give(x, n, 1, n);
        }
        Check.due("run(1)", 0, x.run(1));
        Check.due("1 sends", 1, x.run(1));
        x.rate(2, 141);
        x.rate(3, 141);
        Check.due("2 and 3 are deaf", 0, x.run(2));
        Check.dueTable(x, 1);
        x.rate(2, 0);
        Check.due("what 1 sent left 2 NEW", 1, x.run(1));
        Check.dueHeld(x, 1, 2);
        x.rate(3, 0);
        Check.due("and 3", 1, x.run(2));
        Check.dueHeld(x, 1, 3);
        Check.dueErrors(x, 1);
    }

    private static void tablesAreOfSlots() {
        LinRows x = withAnyFrame(2);
        x.slot(1, 54);
        Check.give(x, 1, 1, 1);
        Check.give(x, 2, 1, 2);
        Check.due("they are NEW still in the second slot", 0, x.run(2));
        Check.dueError(x, 1, 4, 2, 1, 54);
        Check.dueTable(x, 1, 1, 2);
        Check.dueTable(x, 2, 1, 2);
        Check.due("1 twice, the second time not NEW", 2, x.run(2));
        Check.dueHeld(x, 1, 1);
        Check.due("2 twice", 2, x.run(2));
        Check.dueHeld(x, 1, 2);
        Check.due("nothing is NEW", 0, x.run(2));
        Check.dueErrors(x, 2);
    }

    private static void shortSlotIsNoCollision() {
        LinRows x = Check.withSlaves(2);
        x.frame(30, -1, 1, true);
        x.slot(1, 53);
        x.slot(1, 54);
        Check.give(x, 1, 1, 1);
        Check.give(x, 2, 1, 2);
        Check.due("run(2)", 0, x.run(2));
        Check.dueError(x, 0, 3, 1, 1, 0);
        Check.dueError(x, 1, 4, 2, 1, 53);
        Check.dueTable(x, 1);
        Check.dueTable(x, 2, 1, 2);
    }

    private static void sameOctetsAreNoCollision() {
        LinRows x = withAnyFrame(3);
        for (int n = 1; n <= 3; n++) {
            Check.give(x, n, 1, 200);
        }
        Check.due("run(1)", 1, x.run(1));
        Check.dueHeld(x, 1, 200);
        Check.dueTable(x, 1);
        Check.due("all three are NEW no more", 0, x.run(1));
        Check.dueErrors(x, 0);
    }

    private static void allSixteen() {
        LinRows x = withAnyFrame(16);
        int[] all = new int[16];
        for (int n = 1; n <= 16; n++) {
            Check.give(x, n, 1, n == 16 ? 1 : 0);
            all[n - 1] = n;
        }
        Check.due("run(1)", 0, x.run(1));
        Check.dueTable(x, 1, all);
        Check.due("run(16)", 16, x.run(16));
        Check.dueTable(x, 1);
        Check.dueHeld(x, 1, 1);
    }
}
