/** Promise 14. */
public final class AtTest {
    public static void main(String[] args) {
        LinRows x = new LinRows();
        Check.due("no frame", 0, x.at(1, 0));
        Check.due("no frame, wherever", 0, x.at(1, -1));
        Check.due("no frame, wherever", 0, x.at(0, 99));
        Check.due("no frame, wherever", 0, x.at(Integer.MIN_VALUE, Integer.MAX_VALUE));
        x.frame(9, 0, 3, true);
        x.frame(10, 0, 8, true);
        x.slot(1, 74);
        x.slot(2, 124);
        Check.dueHeld(x, 1, 0, 0, 0);
        ends(x);
        Check.give(x, 0, 1, 127, 128, 255);
        Check.give(x, 0, 2, 1, 2, 3, 4, 5, 6, 7, 200);
        Check.dueHeld(x, 1, 0, 0, 0);
        Check.due("run(2)", 2, x.run(2));
        Check.dueHeld(x, 1, 127, 128, 255);
        Check.due("it is a byte", -128, x.at(1, 1));
        Check.dueHeld(x, 2, 1, 2, 3, 4, 5, 6, 7, 200);
        Check.due("frame 3", 0, x.at(3, 0));
        ends(x);
        Check.end();
    }

    private static void ends(LinRows x) {
        Check.dueThrows(x, 1, -1);
        Check.dueThrows(x, 1, 3);
        Check.dueThrows(x, 2, 8);
        Check.dueThrows(x, 2, Integer.MAX_VALUE);
        Check.dueThrows(x, 2, Integer.MIN_VALUE);
    }
}
