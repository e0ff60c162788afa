/** Promise 12. */
public final class RateTest {
    public static void main(String[] args) {
        answers();
        deafSlavesAreSilent();
        Check.end();
    }

    private static void answers() {
        LinRows x = Check.withSlaves(2);
        Check.due("140", 1, x.rate(1, 140));
        Check.due("141", 0, x.rate(1, 141));
        Check.due("-140", 1, x.rate(1, -140));
        Check.due("-141", 0, x.rate(1, -141));
        Check.due("0", 1, x.rate(1, 0));
        Check.due("1000", 0, x.rate(1, 1000));
        Check.due("-1000", 0, x.rate(1, -1000));
        Check.due("1001", -2, x.rate(1, 1001));
        Check.due("-1001", -2, x.rate(1, -1001));
        Check.due("MIN", -2, x.rate(1, Integer.MIN_VALUE));
        Check.due("the master has none", -1, x.rate(0, 0));
        Check.due("slave 3", -1, x.rate(3, 0));
        Check.due("slave -1", -1, x.rate(-1, 0));
        Check.due("unknown is before range", -1, x.rate(3, 1001));
        Check.due("a refusal changed nothing: 1 is deaf", -3, x.wake(1));
        Check.due("2 hears", 0, x.wake(2));
    }

    private static void deafSlavesAreSilent() {
        LinRows x = Check.withSlaves(2);
        x.frame(1, 1, 1, false);
        x.frame(2, -1, 1, false);
        x.slot(1, 100);
        x.slot(2, 100);
        Check.give(x, 1, 1, 7);
        Check.give(x, 2, 1, 7);
        Check.give(x, 1, 2, 1);
        Check.give(x, 2, 2, 2);
        x.rate(1, 200);
        x.rate(2, 200);
        Check.due("nobody", 0, x.run(2));
        Check.dueError(x, 0, 1, 1, 1, 0);
        Check.dueErrors(x, 1);
        x.rate(2, 140);
        Check.due("2 for both: its octets stayed NEW", 2, x.run(2));
        Check.dueHeld(x, 1, 7);
        Check.dueHeld(x, 2, 2);
        x.rate(1, -140);
        Check.due("1 for both", 2, x.run(2));
        Check.dueHeld(x, 2, 1);
        Check.dueErrors(x, 1);
    }
}
