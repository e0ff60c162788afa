/** Promise 1: "The master alone, awake; no frames, no slots." */
public final class NewObjectTest {
    public static void main(String[] args) {
        theMasterIsThere();
        noSlaves();
        awake();
        noFrames();
        noSlots();
        noErrors();
        numbersBeginAtOne();
        objectsShareNothing();
        Check.end();
    }

    private static void theMasterIsThere() {
        LinRows x = new LinRows();
        Check.due("wake(0)", 0, x.wake(0));
        Check.due("a frame from it", 1, x.frame(0, 0, 1, false));
        Check.due("its octets", 0, x.answer(0, 1, (byte) 0));
    }

    private static void noSlaves() {
        LinRows x = new LinRows();
        Check.due("rate(1, 0)", -1, x.rate(1, 0));
        Check.due("wake(1)", -1, x.wake(1));
        Check.due("a frame from slave 1", -1, x.frame(0, 1, 1, false));
        Check.due("a frame from ANY", 1, x.frame(0, -1, 1, false));
        Check.due("answer(1, 1, 0)", -1, x.answer(1, 1, (byte) 0));
    }

    private static void awake() {
        LinRows x = new LinRows();
        Check.due("wake(0)", 0, x.wake(0));
        Check.due("sleep()", 1, x.sleep());
    }

    private static void noFrames() {
        LinRows x = new LinRows();
        Check.due("slot(1, 100)", -1, x.slot(1, 100));
        Check.due("sum(1)", -1, x.sum(1));
        Check.due("answer(0, 1, 0)", -1, x.answer(0, 1, (byte) 0));
        Check.due("at(1, 0)", 0, x.at(1, 0));
        Check.due("at(1, 8)", 0, x.at(1, 8));
    }

    private static void noSlots() {
        LinRows x = new LinRows();
        Check.due("run(0)", -3, x.run(0));
        Check.due("run(1)", -3, x.run(1));
        Check.due("collision(1, 0)", -1, x.collision(1, 0));
    }

    private static void noErrors() {
        LinRows x = new LinRows();
        for (int what = 0; what <= 3; what++) {
            Check.due("error(0, " + what + ")", -1, x.error(0, what));
        }
    }

    private static void numbersBeginAtOne() {
        LinRows x = new LinRows();
        Check.due("first slave", 1, x.slave(1));
        Check.due("first frame", 1, x.frame(0, 0, 1, false));
        Check.due("first slot", 1, x.slot(1, 1));
        Check.due("number 0 is no frame", -1, x.sum(0));
        Check.due("number 0 is no slot", -1, x.collision(0, 0));
        Check.due("number 0 is no slave", -1, x.rate(0, 0));
    }

    private static void objectsShareNothing() {
        LinRows x = Check.withService(2);
        Check.due("no octets: ERROR 1", 0, x.run(1));
        x.sleep();
        LinRows other = new LinRows();
        Check.due("no slave", -1, other.rate(1, 0));
        Check.due("no frame", -1, other.sum(1));
        Check.due("no slot", -1, other.collision(1, 0));
        Check.due("no error", -1, other.error(0, 0));
        Check.due("awake", 0, other.wake(0));
        Check.due("the first sleeps still", 100, x.wake(0));
    }
}
