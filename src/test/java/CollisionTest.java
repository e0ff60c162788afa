/**
 * Promise 9: "Slave i (from 0 on) of a slot's TABLE; 0 if there is none. -1 there is no slot." and
 * the frames from ANY with their COLLISIONS.
 */
public final class CollisionTest {
    public static void main(String[] args) {
        slotIsUnknown();
        slotBehindTheLastOfSixtyFour();
        emptyTable();
        beforeTheFirstOfTheTable();
        behindTheLastOfTheTable();
        nobodyHasNewOctets();
        oneSenderIsNoCollision();
        sameOctetsAreNoCollision();
        twoSendersCollide();
        oneOctetMakesTheDifference();
        collisionHoldsNothing();
        tableIsInTheSlavesOrder();
        tableIsSentInItsOrder();
        octetsOfThen();
        deafSlaveLeavesTheTable();
        deafSlavesAreInNoTable();
        behindTheTableAllAgain();
        sendersAloneAreNewNoMore();
        tablesAreOfSlots();
        shortSlotIsNoCollision();
        onlyFramesFromAnyCollide();
        allSixteen();
        Check.end();
    }

    private static LinRows withAnyFrame(int slaves) {
        LinRows x = Check.withSlaves(slaves);
        x.frame(30, -1, 1, true);
        x.slot(1, 54);
        return x;
    }

    /** Slaves 1 .. count have the octets 1 .. count, and collided. */
    private static LinRows collided(int count) {
        LinRows x = withAnyFrame(count);
        for (int n = 1; n <= count; n++) {
            Check.give(x, n, 1, n);
        }
        Check.due("they collide", 0, x.run(1));
        return x;
    }

    private static void slotIsUnknown() {
        Check.due("no slots", -1, new LinRows().collision(1, 0));
        LinRows x = collided(2);
        for (int slot : new int[] {0, 2, -1, Integer.MIN_VALUE, Integer.MAX_VALUE}) {
            Check.due("slot " + slot, -1, x.collision(slot, 0));
            Check.due("slot " + slot + ", behind the TABLE", -1, x.collision(slot, 99));
        }
        Check.due("slot 1", 1, x.collision(1, 0));
    }

    private static void slotBehindTheLastOfSixtyFour() {
        LinRows x = withAnyFrame(1);
        for (int n = 2; n <= 64; n++) {
            x.slot(1, 54);
        }
        Check.due("slot 65", -1, x.collision(65, 0));
        Check.due("slot 64", 0, x.collision(64, 0));
    }

    private static void emptyTable() {
        LinRows x = withAnyFrame(2);
        for (int i : new int[] {0, 1, 15, 16, -1, Integer.MIN_VALUE, Integer.MAX_VALUE}) {
            Check.due("i = " + i, 0, x.collision(1, i));
        }
    }

    private static void beforeTheFirstOfTheTable() {
        LinRows x = collided(2);
        Check.due("i = -1", 0, x.collision(1, -1));
        Check.due("i = MIN", 0, x.collision(1, Integer.MIN_VALUE));
        Check.due("i = 0", 1, x.collision(1, 0));
    }

    private static void behindTheLastOfTheTable() {
        LinRows x = collided(2);
        Check.due("i = 1", 2, x.collision(1, 1));
        Check.due("i = 2", 0, x.collision(1, 2));
        Check.due("i = 16", 0, x.collision(1, 16));
        Check.due("i = MAX", 0, x.collision(1, Integer.MAX_VALUE));
    }

    private static void nobodyHasNewOctets() {
        LinRows x = withAnyFrame(2);
        Check.due("none were given", 0, x.run(1));
        Check.give(x, 1, 1, 1);
        Check.due("NEW", 1, x.run(1));
        Check.due("NEW no more", 0, x.run(1));
        Check.dueErrors(x, 0);
    }

    private static void oneSenderIsNoCollision() {
        LinRows x = withAnyFrame(2);
        Check.give(x, 2, 1, 7);
        Check.due("run(1)", 1, x.run(1));
        Check.dueHeld(x, 1, 7);
        Check.dueTable(x, 1);
        Check.give(x, 1, 1, 8);
        Check.due("2 has others, but not NEW ones", 1, x.run(1));
        Check.dueHeld(x, 1, 8);
        Check.dueErrors(x, 0);
    }

    private static void sameOctetsAreNoCollision() {
        LinRows x = withAnyFrame(3);
        for (int n = 1; n <= 3; n++) {
            Check.give(x, n, 1, 200);
        }
        Check.due("run(1)", 1, x.run(1));
        Check.dueHeld(x, 1, 200);
        Check.dueTable(x, 1);
        Check.due("all three are NEW no more", 0, x.run(1));
        Check.dueErrors(x, 0);
    }

    private static void twoSendersCollide() {
        LinRows x = collided(2);
        Check.dueError(x, 0, 4, 1, 1, 0);
        Check.dueTable(x, 1, 1, 2);
        Check.dueErrors(x, 1);
    }

    private static void oneOctetMakesTheDifference() {
        for (int i = 0; i < 8; i++) {
            LinRows x = Check.withSlaves(3);
            x.frame(30, -1, 8, true);
            x.slot(1, 124);
            int[] octets = {1, 2, 3, 4, 5, 6, 7, 8};
            Check.give(x, 1, 1, octets);
            Check.give(x, 2, 1, octets);
            octets[i] ^= 0x80;
            Check.give(x, 3, 1, octets);
            Check.due("octet " + i, 0, x.run(1));
            Check.due("ERROR 4", 4, x.error(0, 0));
            Check.dueTable(x, 1, 1, 2, 3);
        }
    }

    private static void collisionHoldsNothing() {
        Check.due("it never HELD anything", -3, collided(2).sum(1));
        LinRows x = withAnyFrame(2);
        Check.give(x, 1, 1, 9);
        Check.due("run(1)", 1, x.run(1));
        Check.give(x, 1, 1, 1);
        Check.give(x, 2, 1, 2);
        Check.due("they collide", 0, x.run(1));
        Check.dueHeld(x, 1, 9);
    }

    private static void tableIsInTheSlavesOrder() {
        LinRows x = withAnyFrame(5);
        Check.give(x, 5, 1, 5);
        Check.give(x, 2, 1, 2);
        Check.give(x, 4, 1, 2);
        Check.due("they collide", 0, x.run(1));
        Check.dueTable(x, 1, 2, 4, 5);
    }

    private static void tableIsSentInItsOrder() {
        LinRows x = collided(3);
        for (int n = 1; n <= 3; n++) {
            Check.due("run(1)", 1, x.run(1));
            Check.dueHeld(x, 1, n);
            for (int i = 0; i < 3; i++) {
                Check.due("collision(1, " + i + ")", n + 1 + i <= 3 ? n + 1 + i : 0, x.collision(1, i));
            }
        }
        Check.due("nothing is NEW", 0, x.run(1));
        Check.dueErrors(x, 1);
    }

    private static void octetsOfThen() {
        LinRows x = collided(2);
        Check.give(x, 1, 1, 11);
        Check.give(x, 2, 1, 22);
        Check.due("1", 1, x.run(1));
        Check.dueHeld(x, 1, 11);
        Check.due("2", 1, x.run(1));
        Check.dueHeld(x, 1, 22);
        Check.due("nothing is NEW", 0, x.run(1));
    }

    private static void deafSlaveLeavesTheTable() {
        LinRows x = collided(2);
        x.rate(1, 141);
        Check.due("1 is deaf: nobody sends", 0, x.run(1));
        Check.dueTable(x, 1, 2);
        Check.due("2", 1, x.run(1));
        Check.dueTable(x, 1);
        x.rate(1, 0);
        Check.due("1 is NEW still", 1, x.run(1));
        Check.dueHeld(x, 1, 1);
        Check.dueErrors(x, 1);
    }

    private static void deafSlavesAreInNoTable() {
        LinRows x = withAnyFrame(3);
        for (int n = 1; n <= 3; n++) {
            Check.give(x, n, 1, n);
        }
        x.rate(1, -141);
        Check.due("2 and 3 collide", 0, x.run(1));
        Check.dueTable(x, 1, 2, 3);
    }

    private static void behindTheTableAllAgain() {
        LinRows x = collided(2);
        Check.due("1", 1, x.run(1));
        Check.give(x, 1, 1, 11);
        Check.due("2 alone, though 1 has NEW ones", 1, x.run(1));
        Check.dueHeld(x, 1, 2);
        Check.give(x, 2, 1, 22);
        Check.due("they collide again", 0, x.run(1));
        Check.dueError(x, 1, 4, 1, 1, 3 * 54);
        Check.dueTable(x, 1, 1, 2);
        Check.due("both", 2, x.run(2));
        Check.dueHeld(x, 1, 22);
        Check.dueErrors(x, 2);
    }

    private static void sendersAloneAreNewNoMore() {
        LinRows x = collided(3);
        Check.due("1 sends", 1, x.run(1));
        x.rate(2, 141);
        x.rate(3, 141);
        Check.due("2 and 3 are deaf", 0, x.run(2));
        Check.dueTable(x, 1);
        x.rate(2, 0);
        Check.due("what 1 sent left 2 NEW", 1, x.run(1));
        Check.dueHeld(x, 1, 2);
        x.rate(3, 0);
        Check.due("and 3", 1, x.run(2));
        Check.dueHeld(x, 1, 3);
        Check.dueErrors(x, 1);
    }

    private static void tablesAreOfSlots() {
        LinRows x = withAnyFrame(2);
        x.slot(1, 54);
        Check.give(x, 1, 1, 1);
        Check.give(x, 2, 1, 2);
        Check.due("they are NEW still in the second slot", 0, x.run(2));
        Check.dueError(x, 1, 4, 2, 1, 54);
        Check.dueTable(x, 1, 1, 2);
        Check.dueTable(x, 2, 1, 2);
        Check.due("1 twice, the second time not NEW", 2, x.run(2));
        Check.dueHeld(x, 1, 1);
        Check.due("2 twice", 2, x.run(2));
        Check.dueHeld(x, 1, 2);
        Check.due("nothing is NEW", 0, x.run(2));
        Check.dueErrors(x, 2);
    }

    private static void shortSlotIsNoCollision() {
        LinRows x = Check.withSlaves(2);
        x.frame(30, -1, 1, true);
        x.slot(1, 53);
        x.slot(1, 54);
        Check.give(x, 1, 1, 1);
        Check.give(x, 2, 1, 2);
        Check.due("run(2)", 0, x.run(2));
        Check.dueError(x, 0, 3, 1, 1, 0);
        Check.dueError(x, 1, 4, 2, 1, 53);
        Check.dueTable(x, 1);
        Check.dueTable(x, 2, 1, 2);
    }

    private static void onlyFramesFromAnyCollide() {
        LinRows x = Check.withSlaves(2);
        x.frame(30, 1, 1, false);
        x.slot(1, 54);
        Check.give(x, 1, 1, 1);
        Check.give(x, 2, 1, 2);
        Check.due("a frame from a slave", 0, x.run(1));
        Check.dueError(x, 0, 2, 1, 1, 0);
        Check.dueTable(x, 1);
    }

    private static void allSixteen() {
        LinRows x = withAnyFrame(16);
        int[] all = new int[16];
        for (int n = 1; n <= 16; n++) {
            Check.give(x, n, 1, n == 16 ? 1 : 0);
            all[n - 1] = n;
        }
        Check.due("run(1)", 0, x.run(1));
        Check.dueTable(x, 1, all);
        Check.due("run(15)", 15, x.run(15));
        Check.dueTable(x, 1, 16);
        Check.due("run(1)", 1, x.run(1));
        Check.dueTable(x, 1);
        Check.dueHeld(x, 1, 1);
    }
}
