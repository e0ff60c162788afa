/** Promise 8, and what nodes have for a frame. */
public final class AnswerTest {
    public static void main(String[] args) {
        refusals();
        counting();
        rowsThatAreNotWhole();
        Check.end();
    }

    private static LinRows withAllKinds() {
        LinRows x = Check.withSlaves(2);
        x.frame(1, 0, 1, false);
        x.frame(2, 1, 1, false);
        x.frame(3, -1, 1, false);
        x.frame(4, -2, 1, false);
        x.frame(60, 0, 8, false);
        x.frame(61, -1, 8, false);
        return x;
    }

    private static void refusals() {
        LinRows x = withAllKinds();
        byte b = 1;
        Check.due("slave 3", -1, x.answer(3, 2, b));
        Check.due("slave -1", -1, x.answer(-1, 2, b));
        Check.due("slave MIN", -1, x.answer(Integer.MIN_VALUE, 2, b));
        Check.due("frame 7", -1, x.answer(1, 7, b));
        Check.due("frame 0", -1, x.answer(1, 0, b));
        Check.due("frame -1", -1, x.answer(0, -1, b));
        Check.due("unknown is before range", -1, x.answer(3, 1, b));
        Check.due("master, a slave's", -2, x.answer(0, 2, b));
        Check.due("master, ANY", -2, x.answer(0, 3, b));
        Check.due("master, 61", -2, x.answer(0, 6, b));
        Check.due("slave, master's", -2, x.answer(1, 1, b));
        Check.due("slave, SPORADIC", -2, x.answer(1, 4, b));
        Check.due("slave, 60", -2, x.answer(1, 5, b));
        Check.due("master, its own", 0, x.answer(0, 1, b));
        Check.due("master, SPORADIC", 0, x.answer(0, 4, b));
        Check.due("master, 60", 7, x.answer(0, 5, b));
        Check.due("slave, its own", 0, x.answer(1, 2, b));
        Check.due("slave, another's", 0, x.answer(2, 2, b));
        Check.due("slave, ANY", 0, x.answer(2, 3, b));
        Check.due("slave, 61", 7, x.answer(2, 6, b));
    }

    private static void counting() {
        LinRows x = withAllKinds();
        x.frame(5, -1, 3, false);
        for (int round = 0; round < 2; round++) {
            for (int missing = 2; missing >= 0; missing--) {
                Check.due("slave 1", missing, x.answer(1, 7, (byte) 5));
                Check.due("slave 2 counts by itself", missing, x.answer(2, 7, (byte) 5));
            }
        }
        x.rate(1, 999);
        Check.due("a deaf slave is given some too", 2, x.answer(1, 7, (byte) 5));
    }

    private static void rowsThatAreNotWhole() {
        LinRows x = new LinRows();
        x.frame(1, 0, 2, false);
        x.frame(2, -2, 2, false);
        x.slot(1, 100);
        x.slot(2, 100);
        Check.give(x, 0, 1, 1);
        Check.give(x, 0, 2, 1);
        Check.due("half a row is none", 0, x.run(2));
        Check.dueError(x, 0, 1, 1, 1, 0);
        Check.due("the other half", 0, Check.give(x, 0, 1, 2));
        Check.due("the other half", 0, Check.give(x, 0, 2, 2));
        Check.due("both", 2, x.run(2));
        Check.due("SPORADIC ones are NEW no more", 1, x.run(2));
        Check.give(x, 0, 1, 3);
        Check.give(x, 0, 2, 3);
        Check.due("the whole row stays, and is not NEW", 1, x.run(2));
        Check.dueHeld(x, 1, 1, 2);
        Check.give(x, 0, 1, 4, 5);
        Check.give(x, 0, 2, 4, 5, 6);
        Check.due("rows are 3, 4 then", 2, x.run(2));
        Check.dueHeld(x, 1, 3, 4);
        Check.due("5, 6 came last, and both are whole", 5, x.at(2, 0));
        Check.dueHeld(x, 2, 5, 6);
        Check.dueErrors(x, 1);
    }
}
