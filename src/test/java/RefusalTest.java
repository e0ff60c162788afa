import java.util.ArrayList;
import java.util.List;

/**
 * "REFUSALS change nothing and answer, the first that fits": each refusal of each promise is made
 * on an object, and not on its twin; all that can be seen of the two is the same afterwards.
 */
public final class RefusalTest {
    private interface World {
        LinRows made();
    }

    private interface Call {
        int on(LinRows x);
    }

    private static final byte B = 3;

    public static void main(String[] args) {
        slave();
        frame();
        slot();
        run();
        parity();
        sum();
        answer();
        collision();
        wake();
        sleep();
        rate();
        error();
        at();
        Check.end();
    }

    private static void refused(int answer, String name, World world, Call call) {
        LinRows x = world.made();
        Check.due(name, answer, call.on(x));
        Check.due(name + ", again", answer, call.on(x));
        List<Integer> due = allToBeSeen(world.made());
        List<Integer> seen = allToBeSeen(x);
        Check.due(name + " changed nothing", 1, seen.equals(due) ? 1 : 0);
    }

    private static void slave() {
        refused(-2, "slave(0)", RefusalTest::busy, x -> x.slave(0));
        refused(-2, "slave(126)", RefusalTest::busy, x -> x.slave(126));
        refused(-3, "slave(11)", RefusalTest::busy, x -> x.slave(11));
        refused(-4, "slave(100)", RefusalTest::full, x -> x.slave(100));
        refused(-2, "range before room", RefusalTest::full, x -> x.slave(0));
        refused(-3, "state before room", RefusalTest::full, x -> x.slave(26));
    }

    private static void frame() {
        refused(-1, "from 1", LinRows::new, x -> x.frame(40, 1, 1, true));
        refused(-1, "from 5", RefusalTest::busy, x -> x.frame(40, 5, 1, true));
        refused(-1, "from 17", RefusalTest::full, x -> x.frame(40, 17, 1, true));
        refused(-2, "identifier -1", RefusalTest::busy, x -> x.frame(-1, 0, 1, true));
        refused(-2, "identifier 62", RefusalTest::busy, x -> x.frame(62, 0, 1, true));
        refused(-2, "length 0", RefusalTest::busy, x -> x.frame(40, 0, 0, true));
        refused(-2, "length 9", RefusalTest::busy, x -> x.frame(40, 0, 9, true));
        refused(-2, "from -3", RefusalTest::busy, x -> x.frame(40, -3, 1, true));
        refused(-2, "60 from ANY", LinRows::new, x -> x.frame(60, -1, 8, true));
        refused(-2, "60 with 7", LinRows::new, x -> x.frame(60, 0, 7, true));
        refused(-2, "61 from the master", LinRows::new, x -> x.frame(61, 0, 8, true));
        refused(-2, "61 with 7", LinRows::new, x -> x.frame(61, -1, 7, true));
        refused(-3, "identifier 1", RefusalTest::busy, x -> x.frame(1, 0, 1, true));
        refused(-3, "identifier 61", RefusalTest::full, x -> x.frame(61, -1, 8, true));
        refused(-1, "unknown before range", RefusalTest::busy, x -> x.frame(62, 5, 0, true));
        refused(-1, "unknown before state", RefusalTest::busy, x -> x.frame(1, 5, 1, true));
        refused(-2, "range before state", RefusalTest::busy, x -> x.frame(1, 0, 9, true));
    }

    private static void slot() {
        refused(-1, "frame 1", LinRows::new, x -> x.slot(1, 100));
        refused(-1, "frame 0", RefusalTest::busy, x -> x.slot(0, 100));
        refused(-1, "frame 7", RefusalTest::busy, x -> x.slot(7, 100));
        refused(-2, "0 ticks", RefusalTest::busy, x -> x.slot(1, 0));
        refused(-2, "1001 ticks", RefusalTest::busy, x -> x.slot(1, 1001));
        refused(-4, "slot 65", RefusalTest::full, x -> x.slot(1, 100));
        refused(-1, "unknown before range", RefusalTest::busy, x -> x.slot(7, 0));
        refused(-1, "unknown before room", RefusalTest::full, x -> x.slot(63, 100));
        refused(-2, "range before room", RefusalTest::full, x -> x.slot(1, 1001));
    }

    private static void run() {
        refused(-2, "run(-1)", RefusalTest::busy, x -> x.run(-1));
        refused(-2, "run(1001)", RefusalTest::busy, x -> x.run(1001));
        refused(-3, "no slots", LinRows::new, x -> x.run(1));
        refused(-3, "asleep", RefusalTest::asleep, x -> x.run(1));
        refused(-2, "range before no slots", LinRows::new, x -> x.run(1001));
        refused(-2, "range before asleep", RefusalTest::asleep, x -> x.run(-1));
    }

    private static void parity() {
        refused(-2, "parity(-1)", RefusalTest::busy, x -> x.parity(-1));
        refused(-2, "parity(64)", RefusalTest::busy, x -> x.parity(64));
    }

    private static void sum() {
        refused(-1, "sum(1)", LinRows::new, x -> x.sum(1));
        refused(-1, "sum(7)", RefusalTest::busy, x -> x.sum(7));
        refused(-1, "sum(63)", RefusalTest::full, x -> x.sum(63));
        refused(-3, "sum(3)", RefusalTest::busy, x -> x.sum(3));
    }

    private static void answer() {
        refused(-1, "node 1", LinRows::new, x -> x.answer(1, 1, B));
        refused(-1, "node 5", RefusalTest::busy, x -> x.answer(5, 3, B));
        refused(-1, "node -1", RefusalTest::busy, x -> x.answer(-1, 3, B));
        refused(-1, "node 17", RefusalTest::full, x -> x.answer(17, 62, B));
        refused(-1, "frame 7", RefusalTest::busy, x -> x.answer(0, 7, B));
        refused(-1, "frame 63", RefusalTest::full, x -> x.answer(0, 63, B));
        refused(-2, "the master, from a slave", RefusalTest::busy, x -> x.answer(0, 2, B));
        refused(-2, "the master, from ANY", RefusalTest::busy, x -> x.answer(0, 3, B));
        refused(-2, "a slave, from the master", RefusalTest::busy, x -> x.answer(1, 1, B));
        refused(-2, "a slave, SPORADIC", RefusalTest::busy, x -> x.answer(1, 4, B));
        refused(-1, "unknown before range", RefusalTest::busy, x -> x.answer(5, 1, B));
    }

    private static void collision() {
        refused(-1, "slot 1", LinRows::new, x -> x.collision(1, 0));
        refused(-1, "slot 0", RefusalTest::busy, x -> x.collision(0, 0));
        refused(-1, "slot 8", RefusalTest::busy, x -> x.collision(8, 0));
        refused(-1, "slot 65", RefusalTest::full, x -> x.collision(65, 0));
    }

    private static void wake() {
        refused(-1, "node 1", LinRows::new, x -> x.wake(1));
        refused(-1, "node 5, asleep", RefusalTest::asleep, x -> x.wake(5));
        refused(-1, "node -1, asleep", RefusalTest::asleep, x -> x.wake(-1));
        refused(-1, "node 17", RefusalTest::full, x -> x.wake(17));
        refused(-3, "a deaf one, asleep", RefusalTest::asleep, x -> x.wake(4));
        refused(-3, "a deaf one, awake", RefusalTest::busy, x -> x.wake(4));
    }

    private static void sleep() {
        refused(-3, "sleep()", RefusalTest::asleep, LinRows::sleep);
    }

    private static void rate() {
        refused(-1, "slave 1", LinRows::new, x -> x.rate(1, 500));
        refused(-1, "the master", RefusalTest::busy, x -> x.rate(0, 500));
        refused(-1, "slave 5", RefusalTest::busy, x -> x.rate(5, 500));
        refused(-1, "slave 17", RefusalTest::full, x -> x.rate(17, 500));
        refused(-2, "1001", RefusalTest::busy, x -> x.rate(1, 1001));
        refused(-2, "-1001", RefusalTest::busy, x -> x.rate(1, -1001));
        refused(-1, "unknown before range", RefusalTest::busy, x -> x.rate(5, 1001));
    }

    private static void error() {
        refused(-1, "error 0", LinRows::new, x -> x.error(0, 0));
        refused(-1, "error -1", RefusalTest::busy, x -> x.error(-1, 0));
        refused(-1, "error 200", RefusalTest::full, x -> x.error(200, 0));
        refused(-2, "what -1", RefusalTest::busy, x -> x.error(0, -1));
        refused(-2, "what 4", RefusalTest::busy, x -> x.error(0, 4));
        refused(-1, "unknown before range", RefusalTest::full, x -> x.error(200, 4));
    }

    private static void at() {
        refused(1, "at(1, -1)", RefusalTest::busy, x -> Check.thrownBy(x, 1, -1));
        refused(1, "at(1, 2)", RefusalTest::busy, x -> Check.thrownBy(x, 1, 2));
    }

    /**
     * Slaves 1 .. 4, of which 4 is deaf; frames 1 .. 6: the master's, slave 1's, ANY's, SPORADIC, 60
     * and 61, with slots 1 .. 6 and a short one, 7. Rows are half given and NEW, slot 3 has a TABLE,
     * slave 2 has a change of its address to tell, there are errors, and slot 4 is next.
     */
    private static LinRows busy() {
        LinRows x = Check.withSlaves(4);
        x.rate(4, 200);
        x.frame(1, 0, 2, true);
        x.frame(2, 1, 2, true);
        x.frame(3, -1, 2, false);
        x.frame(4, -2, 2, false);
        x.frame(60, 0, 8, false);
        x.frame(61, -1, 8, false);
        for (int frame = 1; frame <= 6; frame++) {
            x.slot(frame, 110 + 4 * frame);
        }
        x.slot(1, 63);
        Check.give(x, 0, 5, 12, 6, 176, 80, 0, 0, 0, 0);
        Check.give(x, 0, 1, 1, 2, 3);
        Check.give(x, 1, 2, 7, 8);
        Check.due("60 and frames 1 and 2", 3, x.run(7));
        Check.give(x, 2, 2, 8, 7);
        Check.give(x, 1, 3, 1, 1);
        Check.give(x, 2, 3, 2, 2, 9);
        Check.give(x, 4, 3, 4, 4);
        Check.give(x, 0, 4, 5, 6, 7);
        Check.due("frame 1 alone", 1, x.run(3));
        Check.dueTable(x, 3, 1, 2);
        Check.give(x, 3, 3, 3, 3, 3);
        Check.give(x, 0, 5, 80, 0, 0, 0, 0, 0, 0, 0);
        return x;
    }

    private static LinRows asleep() {
        LinRows x = busy();
        Check.due("sleep()", 1, x.sleep());
        return x;
    }

    /** 16 slaves, 62 frames, 64 slots and 200 errors. */
    private static LinRows full() {
        LinRows x = Check.withSlaves(16);
        for (int id = 0; id <= 61; id++) {
            x.frame(id, id == 61 ? -1 : id == 60 ? 0 : id % 17, 8, true);
        }
        for (int n = 1; n <= 64; n++) {
            x.slot(1 + n % 62, 10 * n);
        }
        Check.due("nobody has anything", 0, x.run(300));
        Check.dueErrors(x, 200);
        return x;
    }

    /** Asks all that an object answers, and changes it so that what it would do is seen too. */
    private static List<Integer> allToBeSeen(LinRows x) {
        List<Integer> seen = new ArrayList<>();
        addHeld(x, seen);
        addTables(x, seen);
        addErrors(x, seen);
        addMissing(x, seen);
        // Slaves first: they wake nothing if they are deaf, and all behind the first find it awake.
        for (int node = 16; node >= 0; node--) {
            seen.add(x.wake(node));
        }
        for (int k = 0; k < 8; k++) {
            seen.add(x.run(1));
            addLast(x, seen);
        }
        seen.add(x.run(14));
        addErrors(x, seen);
        seen.add(x.slave(80));
        seen.add(x.slave(12));
        seen.add(x.slave(100));
        seen.add(x.frame(40, 0, 8, true));
        seen.add(x.slot(1, 100));
        return seen;
    }

    private static void addHeld(LinRows x, List<Integer> seen) {
        int[] lengths = {2, 2, 2, 2, 8, 8};
        for (int frame = 1; frame <= 62; frame++) {
            int sum = x.sum(frame);
            seen.add(sum);
            for (int i = 0; sum >= 0 && i < lengths[frame - 1]; i++) {
                seen.add((int) x.at(frame, i));
            }
        }
    }

    private static void addTables(LinRows x, List<Integer> seen) {
        for (int slot = 1; slot <= 8; slot++) {
            for (int i = 0; i < 3; i++) {
                seen.add(x.collision(slot, i));
            }
        }
        seen.add(x.collision(64, 0));
    }

    private static void addErrors(LinRows x, List<Integer> seen) {
        for (int i : new int[] {0, 1, 2, 3, 4, 5, 6, 199, 200}) {
            for (int what = 0; what <= 3; what++) {
                seen.add(x.error(i, what));
            }
        }
    }

    /** Gives one octet more where a row was begun or not, and so tells how many were given. */
    private static void addMissing(LinRows x, List<Integer> seen) {
        for (int frame = 1; frame <= 6; frame++) {
            for (int node = 0; node <= 3; node++) {
                seen.add(x.answer(node, frame, (byte) 77));
            }
        }
    }

    private static void addLast(LinRows x, List<Integer> seen) {
        for (int frame = 1; frame <= 6; frame++) {
            seen.add(x.sum(frame));
        }
        seen.add(x.collision(3, 0));
    }
}
