/** Promise 4. */
public final class SlotTest {
    public static void main(String[] args) {
        LinRows x = new LinRows();
        Check.due("no frame yet", -1, x.slot(1, 100));
        Check.due("frame", 1, x.frame(3, 0, 1, false));
        Check.due("frame 0", -1, x.slot(0, 100));
        Check.due("frame 2", -1, x.slot(2, 100));
        Check.due("frame -1", -1, x.slot(-1, 100));
        Check.due("frame MIN", -1, x.slot(Integer.MIN_VALUE, 100));
        Check.due("unknown is before range", -1, x.slot(2, 0));
        Check.due("0 ticks", -2, x.slot(1, 0));
        Check.due("-1 ticks", -2, x.slot(1, -1));
        Check.due("1001 ticks", -2, x.slot(1, 1001));
        Check.due("1 tick", 1, x.slot(1, 1));
        Check.due("1000 ticks", 2, x.slot(1, 1000));
        for (int n = 3; n <= 64; n++) {
            Check.due("slot " + n, n, x.slot(1, 54));
        }
        Check.due("the 65th", -4, x.slot(1, 54));
        Check.due("range is before room", -2, x.slot(1, 0));
        Check.due("unknown is before room", -1, x.slot(2, 54));
        Check.due("no slot 65", -1, x.collision(65, 0));
        Check.due("a slot 64", 0, x.collision(64, 0));
        Check.due("nothing given", 0, x.run(65));
        Check.dueError(x, 0, 1, 1, 1, 0);
        Check.dueError(x, 1, 1, 2, 1, 1);
        Check.dueError(x, 2, 1, 3, 1, 1001);
        Check.dueError(x, 63, 1, 64, 1, 1001 + 61 * 54);
        Check.dueError(x, 64, 1, 1, 1, 1001 + 62 * 54);
        Check.end();
    }
}
