/** Promise 2: "A slave: its number. -2 no such address, -3 one has it, -4 there are 16." */
public final class SlaveTest {
    public static void main(String[] args) {
        lowestAddress();
        highestAddress();
        addressTooSmall();
        addressTooLarge();
        addressIsTaken();
        addressOfADeafSlaveIsTaken();
        changedAddress();
        roomForSixteen();
        rangeIsBeforeRoom();
        stateIsBeforeRoom();
        slaveHearsAtFirst();
        Check.end();
    }

    private static void lowestAddress() {
        LinRows x = new LinRows();
        Check.due("slave(0)", -2, x.slave(0));
        Check.due("slave(1)", 1, x.slave(1));
    }

    private static void highestAddress() {
        LinRows x = new LinRows();
        Check.due("slave(126)", -2, x.slave(126));
        Check.due("slave(125)", 1, x.slave(125));
    }

    private static void addressTooSmall() {
        LinRows x = new LinRows();
        Check.due("slave(-1)", -2, x.slave(-1));
        Check.due("slave(-125)", -2, x.slave(-125));
        Check.due("slave(MIN)", -2, x.slave(Integer.MIN_VALUE));
    }

    private static void addressTooLarge() {
        LinRows x = new LinRows();
        Check.due("slave(127)", -2, x.slave(127));
        // 256 + 1: what would be address 1, were it cut to an octet.
        Check.due("slave(257)", -2, x.slave(257));
        Check.due("slave(MAX)", -2, x.slave(Integer.MAX_VALUE));
    }

    private static void addressIsTaken() {
        LinRows x = new LinRows();
        Check.due("slave(1)", 1, x.slave(1));
        Check.due("slave(1) again", -3, x.slave(1));
        Check.due("slave(125)", 2, x.slave(125));
        Check.due("slave(125) again", -3, x.slave(125));
        Check.due("slave(1) again", -3, x.slave(1));
        Check.due("refusals took no numbers", 3, x.slave(2));
    }

    private static void addressOfADeafSlaveIsTaken() {
        LinRows x = Check.withSlaves(1);
        x.rate(1, 1000);
        Check.due("slave(11) again", -3, x.slave(11));
    }

    private static void changedAddress() {
        LinRows x = Check.withService(1);
        Check.give(x, 0, 1, 11, 6, 176, 99, 0, 0, 0, 0);
        Check.due("given alone is no change", -3, x.slave(11));
        Check.due("run(1)", 1, x.run(1));
        Check.due("the new address is taken", -3, x.slave(99));
        Check.due("the old one is free", 2, x.slave(11));
    }

    private static void roomForSixteen() {
        LinRows x = Check.withSlaves(15);
        Check.due("the 16th", 16, x.slave(125));
        Check.due("the 17th", -4, x.slave(124));
        Check.due("the 17th again", -4, x.slave(1));
        Check.due("the 16th is there", 1, x.rate(16, 0));
        Check.due("a 17th is not", -1, x.rate(17, 0));
        Check.due("nor does it wake", -1, x.wake(17));
        Check.due("nor send", -1, x.frame(0, 17, 1, false));
    }

    private static void rangeIsBeforeRoom() {
        LinRows x = Check.withSlaves(16);
        Check.due("slave(0)", -2, x.slave(0));
        Check.due("slave(126)", -2, x.slave(126));
    }

    private static void stateIsBeforeRoom() {
        LinRows x = Check.withSlaves(16);
        Check.due("the first one's", -3, x.slave(11));
        Check.due("the last one's", -3, x.slave(26));
    }

    private static void slaveHearsAtFirst() {
        LinRows x = Check.withSlaves(1);
        x.sleep();
        Check.due("wake(1)", 108, x.wake(1));
    }
}
