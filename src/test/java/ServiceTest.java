/** Promise 5 with the terms: requests and answers (60 and 61), and changes of addresses. */
public final class ServiceTest {
    public static void main(String[] args) {
        noRequestYet();
        requestWasNeverHeld();
        requestTooShortAsksNobody();
        addressesThatNobodyHas();
        lowestAndHighestAddressAsked();
        askedSlaveHasNoOctets();
        askedAloneSendsNewOrNot();
        asleepRequestAsksNobody();
        lowestNewAddress();
        highestNewAddress();
        newAddressTooSmallOrTooLarge();
        newAddressIsTaken();
        newAddressIsItsOwn();
        oldAddressIsFreeForAnother();
        otherServicesChangeNothing();
        nobodyHasTheAddress();
        deafSlaveChangesNothing();
        shortRequestChangesNothing();
        otherFramesChangeNothing();
        toldOnce();
        toldWithoutOctets();
        toldWhenItIsAskedNext();
        toldThoughItSentAnotherFrame();
        deafSlaveTellsLater();
        shortAnswerIsToldLater();
        changedTwiceBeforeItIsTold();
        twoSlavesHaveSomethingToTell();
        Check.end();
    }

    private static int ask(LinRows x, int address) {
        return Check.give(x, 0, 1, address, 0, 0, 0, 0, 0, 0, 0);
    }

    private static int askChange(LinRows x, int from, int to) {
        return Check.give(x, 0, 1, from, 6, 176, to, 0, 0, 0, 0);
    }

    private static void giveAnswer(LinRows x, int slave) {
        Check.give(x, slave, 2, slave, slave, slave, slave, slave, slave, slave, slave);
    }

    private static void dueAnswer(LinRows x, int slave) {
        Check.dueHeld(x, 2, slave, slave, slave, slave, slave, slave, slave, slave);
    }

    private static void dueTold(LinRows x, int address) {
        Check.dueHeld(x, 2, address, 1, 240, 255, 255, 255, 255, 255);
    }

    private static void noRequestYet() {
        LinRows x = Check.withSlaves(1);
        x.frame(61, -1, 8, false);
        x.slot(1, 200);
        Check.give(x, 1, 1, 1, 1, 1, 1, 1, 1, 1, 1);
        Check.due("no frame 60, no ERROR", 0, x.run(1));
        Check.dueErrors(x, 0);
    }

    private static void requestWasNeverHeld() {
        LinRows x = Check.withService(1);
        giveAnswer(x, 1);
        Check.due("nobody sent 60", 0, x.run(2));
        Check.dueError(x, 0, 1, 1, 1, 0);
        Check.dueErrors(x, 1);
    }

    private static void requestTooShortAsksNobody() {
        LinRows x = Check.withSlaves(1);
        x.frame(60, 0, 8, false);
        x.frame(61, -1, 8, false);
        x.slot(1, 123);
        x.slot(2, 124);
        ask(x, 11);
        giveAnswer(x, 1);
        Check.due("60 was not HELD", 0, x.run(2));
        Check.dueError(x, 0, 3, 1, 1, 0);
        Check.dueErrors(x, 1);
    }

    private static void addressesThatNobodyHas() {
        LinRows x = Check.withService(2);
        giveAnswer(x, 1);
        giveAnswer(x, 2);
        for (int address : new int[] {0, 1, 10, 13, 126, 127, 128, 255}) {
            ask(x, address);
            Check.due("60 alone for " + address, 1, x.run(2));
        }
        Check.dueErrors(x, 0);
    }

    private static void lowestAndHighestAddressAsked() {
        LinRows x = new LinRows();
        x.slave(1);
        x.slave(125);
        x.frame(60, 0, 8, false);
        x.frame(61, -1, 8, false);
        x.slot(1, 124);
        x.slot(2, 124);
        giveAnswer(x, 1);
        giveAnswer(x, 2);
        ask(x, 1);
        Check.due("both", 2, x.run(2));
        dueAnswer(x, 1);
        ask(x, 125);
        Check.due("both", 2, x.run(2));
        dueAnswer(x, 2);
    }

    private static void askedSlaveHasNoOctets() {
        LinRows x = Check.withService(2);
        giveAnswer(x, 1);
        Check.give(x, 2, 2, 2, 2, 2, 2, 2, 2, 2);
        ask(x, 12);
        Check.due("seven are none, and no ERROR", 1, x.run(2));
        Check.due("61 HELD nothing", -3, x.sum(2));
        Check.give(x, 2, 2, 2);
        Check.due("eight", 2, x.run(2));
        dueAnswer(x, 2);
        Check.dueErrors(x, 0);
    }

    private static void askedAloneSendsNewOrNot() {
        LinRows x = Check.withService(2);
        giveAnswer(x, 1);
        giveAnswer(x, 2);
        ask(x, 12);
        Check.due("both have NEW ones: no collision", 2, x.run(2));
        dueAnswer(x, 2);
        Check.due("NEW no more", 2, x.run(2));
        dueAnswer(x, 2);
        Check.dueTable(x, 2);
        Check.dueErrors(x, 0);
    }

    private static void asleepRequestAsksNobody() {
        LinRows x = Check.withService(1);
        giveAnswer(x, 1);
        x.sleep();
        x.wake(0);
        Check.due("60 was given nothing, 61 asks 0", 0, x.run(2));
        Check.dueErrors(x, 1);
    }

    private static void lowestNewAddress() {
        LinRows x = Check.withService(1);
        askChange(x, 11, 1);
        Check.due("60 alone: nobody has 11 now", 1, x.run(2));
        Check.due("1 is taken", -3, x.slave(1));
        ask(x, 1);
        Check.due("it is told", 2, x.run(2));
        dueTold(x, 1);
    }

    private static void highestNewAddress() {
        LinRows x = Check.withService(1);
        askChange(x, 11, 125);
        Check.due("60 alone: nobody has 11 now", 1, x.run(2));
        Check.due("125 is taken", -3, x.slave(125));
        ask(x, 125);
        Check.due("it is told", 2, x.run(2));
        dueTold(x, 125);
    }

    private static void newAddressTooSmallOrTooLarge() {
        for (int address : new int[] {0, 126, 127, 128, 255}) {
            dueNoChange(11, 6, 176, address);
        }
    }

    private static void newAddressIsTaken() {
        dueNoChange(11, 6, 176, 12);
        LinRows x = Check.withService(2);
        giveAnswer(x, 1);
        x.rate(2, 1000);
        askChange(x, 11, 12);
        Check.due("by a deaf slave", 2, x.run(2));
        dueAnswer(x, 1);
    }

    private static void newAddressIsItsOwn() {
        dueNoChange(11, 6, 176, 11);
    }

    private static void oldAddressIsFreeForAnother() {
        LinRows x = Check.withService(2);
        giveAnswer(x, 1);
        giveAnswer(x, 2);
        askChange(x, 11, 50);
        Check.due("60 alone", 1, x.run(2));
        askChange(x, 12, 11);
        Check.due("60 alone", 1, x.run(2));
        ask(x, 11);
        Check.due("slave 2 has it", 2, x.run(2));
        dueTold(x, 11);
        Check.due("run(2)", 2, x.run(2));
        dueAnswer(x, 2);
    }

    private static void otherServicesChangeNothing() {
        dueNoChange(11, 5, 176, 50);
        dueNoChange(11, 7, 176, 50);
        dueNoChange(11, 0, 176, 50);
        dueNoChange(11, 6, 175, 50);
        dueNoChange(11, 6, 177, 50);
        dueNoChange(11, 176, 6, 50);
    }

    /** The request asks slave 1, which answers at its address, with its own octets. */
    private static void dueNoChange(int octet0, int octet1, int octet2, int octet3) {
        LinRows x = Check.withService(2);
        giveAnswer(x, 1);
        Check.give(x, 0, 1, octet0, octet1, octet2, octet3, 0, 0, 0, 0);
        String request = octet0 + " " + octet1 + " " + octet2 + " " + octet3;
        Check.due(request, 2, x.run(2));
        dueAnswer(x, 1);
        Check.due("slave 1 has its address", -3, x.slave(11));
        Check.due("50 is free", 3, x.slave(50));
    }

    private static void nobodyHasTheAddress() {
        for (int address : new int[] {0, 13, 126, 255}) {
            LinRows x = Check.withService(2);
            askChange(x, address, 50);
            Check.due("60 alone for " + address, 1, x.run(2));
            Check.due("50 is free", 3, x.slave(50));
        }
    }

    private static void deafSlaveChangesNothing() {
        LinRows x = Check.withService(1);
        x.rate(1, 141);
        askChange(x, 11, 50);
        Check.due("60 is DONE", 1, x.run(2));
        x.rate(1, 140);
        Check.due("11 is its address", -3, x.slave(11));
        Check.due("50 is free", 2, x.slave(50));
    }

    private static void shortRequestChangesNothing() {
        LinRows x = Check.withSlaves(1);
        x.frame(60, 0, 8, false);
        x.slot(1, 123);
        askChange(x, 11, 50);
        Check.due("60 is not DONE", 0, x.run(1));
        Check.due("11 is its address", -3, x.slave(11));
        Check.due("50 is free", 2, x.slave(50));
    }

    private static void otherFramesChangeNothing() {
        LinRows x = Check.withService(1);
        giveAnswer(x, 1);
        x.frame(59, 0, 8, false);
        x.slot(3, 200);
        ask(x, 11);
        Check.give(x, 0, 3, 11, 6, 176, 50, 0, 0, 0, 0);
        Check.due("all", 6, x.run(6));
        dueAnswer(x, 1);
        Check.due("11 is its address", -3, x.slave(11));
        Check.due("50 is free", 2, x.slave(50));
    }

    private static void toldOnce() {
        LinRows x = Check.withService(1);
        giveAnswer(x, 1);
        askChange(x, 11, 50);
        Check.due("60 alone", 1, x.run(2));
        ask(x, 50);
        Check.due("told", 2, x.run(2));
        dueTold(x, 50);
        Check.due("its sum", 255 - (50 + 1 + 240 - 255), x.sum(2));
        Check.due("once", 2, x.run(2));
        dueAnswer(x, 1);
    }

    private static void toldWithoutOctets() {
        LinRows x = Check.withService(1);
        askChange(x, 11, 50);
        Check.due("60 alone", 1, x.run(2));
        ask(x, 50);
        Check.due("told", 2, x.run(2));
        dueTold(x, 50);
        Check.due("then it has none", 1, x.run(2));
        Check.dueErrors(x, 0);
    }

    private static void toldWhenItIsAskedNext() {
        LinRows x = Check.withService(2);
        giveAnswer(x, 2);
        askChange(x, 11, 50);
        Check.due("61 asks nobody", 1, x.run(2));
        ask(x, 12);
        Check.due("61 asks slave 2", 2, x.run(2));
        dueAnswer(x, 2);
        ask(x, 50);
        Check.due("61 asks slave 1", 2, x.run(2));
        dueTold(x, 50);
    }

    private static void toldThoughItSentAnotherFrame() {
        LinRows x = Check.withService(1);
        giveAnswer(x, 1);
        x.frame(1, 1, 1, false);
        x.slot(3, 200);
        Check.give(x, 1, 3, 9);
        askChange(x, 11, 50);
        Check.due("60 and frame 3", 2, x.run(3));
        ask(x, 50);
        Check.due("all", 3, x.run(3));
        dueTold(x, 50);
    }

    private static void deafSlaveTellsLater() {
        LinRows x = Check.withService(1);
        askChange(x, 11, 50);
        Check.due("60 alone", 1, x.run(2));
        ask(x, 50);
        x.rate(1, 141);
        Check.due("deaf", 1, x.run(2));
        x.rate(1, 140);
        Check.due("told", 2, x.run(2));
        dueTold(x, 50);
        Check.dueErrors(x, 0);
    }

    private static void shortAnswerIsToldLater() {
        LinRows x = Check.withSlaves(1);
        x.frame(60, 0, 8, false);
        x.frame(61, -1, 8, false);
        x.slot(1, 124);
        x.slot(2, 123);
        x.slot(2, 124);
        askChange(x, 11, 50);
        Check.due("60 alone", 1, x.run(3));
        ask(x, 50);
        Check.due("too short, but for the next slot", 2, x.run(3));
        Check.dueError(x, 0, 3, 2, 2, 371 + 124);
        dueTold(x, 50);
        Check.dueErrors(x, 1);
    }

    private static void changedTwiceBeforeItIsTold() {
        LinRows x = Check.withService(1);
        askChange(x, 11, 50);
        Check.due("60 alone", 1, x.run(2));
        askChange(x, 50, 51);
        Check.due("60 alone", 1, x.run(2));
        ask(x, 51);
        Check.due("the newest is told", 2, x.run(2));
        dueTold(x, 51);
        Check.due("once", 1, x.run(2));
        Check.due("50 is free", 2, x.slave(50));
    }

    private static void twoSlavesHaveSomethingToTell() {
        LinRows x = Check.withService(2);
        askChange(x, 11, 50);
        Check.due("60 alone", 1, x.run(2));
        askChange(x, 12, 51);
        Check.due("60 alone", 1, x.run(2));
        ask(x, 51);
        Check.due("slave 2", 2, x.run(2));
        dueTold(x, 51);
        ask(x, 50);
        Check.due("slave 1", 2, x.run(2));
        dueTold(x, 50);
    }
}
