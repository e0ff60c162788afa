/** Promise 13. */
public final class ErrorTest {
    public static void main(String[] args) {
        kindsSlotsFramesTicks();
        firstTwoHundred();
        Check.end();
    }

    private static void kindsSlotsFramesTicks() {
        LinRows x = Check.withSlaves(2);
        x.frame(20, 0, 2, false);
        x.frame(21, 1, 1, false);
        x.frame(22, -1, 1, false);
        x.slot(3, 70);
        x.slot(2, 54);
        x.slot(1, 63);
        Check.due("none yet", -1, x.error(0, 0));
        Check.due("unknown is before range", -1, x.error(0, 4));
        Check.give(x, 1, 3, 1);
        Check.give(x, 2, 3, 2);
        Check.give(x, 1, 2, 0x0F);
        Check.give(x, 2, 2, 0xF0);
        Check.give(x, 0, 1, 1, 2);
        Check.due("run(3)", 0, x.run(3));
        Check.dueError(x, 0, 4, 1, 3, 0);
        Check.dueError(x, 1, 2, 2, 2, 70);
        Check.dueError(x, 2, 3, 3, 1, 124);
        x.rate(1, 300);
        Check.due("run(3)", 0, x.run(3));
        Check.dueError(x, 3, 1, 2, 2, 187 + 70);
        Check.dueError(x, 4, 3, 3, 1, 187 + 124);
        Check.dueErrors(x, 5);
        Check.due("what -1", -2, x.error(4, -1));
        Check.due("what 4", -2, x.error(4, 4));
        Check.due("what MIN", -2, x.error(0, Integer.MIN_VALUE));
        Check.due("error -1", -1, x.error(-1, 0));
        Check.due("error MIN", -1, x.error(Integer.MIN_VALUE, 0));
        Check.due("error MAX", -1, x.error(Integer.MAX_VALUE, 9));
    }

    private static void firstTwoHundred() {
        LinRows x = new LinRows();
        x.frame(1, 0, 1, false);
        x.slot(1, 1000);
        Check.due("run(199)", 0, x.run(199));
        Check.dueErrors(x, 199);
        Check.due("run(1000)", 0, x.run(1000));
        Check.dueErrors(x, 200);
        Check.dueError(x, 0, 1, 1, 1, 0);
        Check.dueError(x, 199, 1, 1, 1, 199000);
    }
}
