/** Promise 2. */
public final class SlaveTest {
    public static void main(String[] args) {
        LinRows x = new LinRows();
        Check.due("slave(1)", 1, x.slave(1));
        Check.due("slave(125)", 2, x.slave(125));
        Check.due("slave(0)", -2, x.slave(0));
        Check.due("slave(126)", -2, x.slave(126));
        Check.due("slave(-1)", -2, x.slave(-1));
        Check.due("slave(MIN)", -2, x.slave(Integer.MIN_VALUE));
        Check.due("slave(MAX)", -2, x.slave(Integer.MAX_VALUE));
        Check.due("slave(1) again", -3, x.slave(1));
        Check.due("slave(125) again", -3, x.slave(125));
        for (int n = 3; n <= 16; n++) {
            Check.due("slave " + n, n, x.slave(n));
        }
        Check.due("the 17th", -4, x.slave(50));
        Check.due("range is before room", -2, x.slave(0));
        Check.due("state is before room", -3, x.slave(16));
        Check.due("the 16th is there", 1, x.rate(16, 0));
        Check.due("a 17th is not", -1, x.rate(17, 0));
        changedAddress();
        Check.end();
    }

    private static void changedAddress() {
        LinRows x = Check.withService(1);
        Check.give(x, 0, 1, 11, 6, 176, 99, 0, 0, 0, 0);
        Check.due("run(1)", 1, x.run(1));
        Check.due("the new address is taken", -3, x.slave(99));
        Check.due("the old one is free", 2, x.slave(11));
    }
}
