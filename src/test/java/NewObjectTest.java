/** Promise 1. */
public final class NewObjectTest {
    public static void main(String[] args) {
        LinRows x = new LinRows();
        Check.due("no slots", -3, x.run(0));
        Check.due("no slot 1", -1, x.collision(1, 0));
        Check.due("no frame 1", -1, x.sum(1));
        Check.due("no frame 1", 0, x.at(1, 0));
        Check.due("no slave 1", -1, x.rate(1, 0));
        Check.due("no errors", -1, x.error(0, 0));
        Check.due("awake", 0, x.wake(0));
        Check.due("awake", 1, x.sleep());
        Check.due("first slave", 1, x.slave(1));
        Check.due("first frame", 1, x.frame(0, 0, 1, false));
        Check.due("first slot", 1, x.slot(1, 1));

        LinRows other = new LinRows();
        Check.due("nothing is shared with another object", -1, other.rate(1, 0));
        Check.due("nothing is shared with another object", 0, other.wake(0));
        Check.end();
    }
}
